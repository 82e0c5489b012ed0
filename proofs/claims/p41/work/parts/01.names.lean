-- ===== PART A: goes FIRST, ahead of the names: the tables' words, and 'selects' of the private methods out of them =====
/-- a private method of a class that the tables say can be made, by its rows of tables_1 -/
def lw_okq (q : MethodName × Nat) : Prop := (q.1.cls ≠ "java/lang/invoke/MethodHandle" ∧ q.1.cls ≠ "java/lang/invoke/VarHandle") ∧ Cond.instantiable q.1.cls q.2 ∈ tables_1 ∧ Cond.privateMethod q.1 ∈ tables_1 ∧ Cond.instanceMethod q.1 ∈ tables_1
theorem lw_p0 : lw_okq (⟨"KindergartenPlanner", "childAt", "(I)LKindergartenPlanner$Child;"⟩, 12) := ⟨⟨by decide +kernel, by decide +kernel⟩, List.mem_of_getElem? (i := 12) (by decide +kernel), List.mem_of_getElem? (i := 148) (by decide +kernel), List.mem_of_getElem? (i := 149) (by decide +kernel)⟩
theorem lw_p1 : lw_okq (⟨"KindergartenPlanner", "rebook", "(LKindergartenPlanner$Child;J)I"⟩, 12) := ⟨⟨by decide +kernel, by decide +kernel⟩, List.mem_of_getElem? (i := 12) (by decide +kernel), List.mem_of_getElem? (i := 168) (by decide +kernel), List.mem_of_getElem? (i := 169) (by decide +kernel)⟩
theorem lw_p2 : lw_okq (⟨"KindergartenPlanner", "areSafeWith", "(JLKindergartenPlanner$Child;)Z"⟩, 12) := ⟨⟨by decide +kernel, by decide +kernel⟩, List.mem_of_getElem? (i := 12) (by decide +kernel), List.mem_of_getElem? (i := 172) (by decide +kernel), List.mem_of_getElem? (i := 173) (by decide +kernel)⟩
theorem lw_p3 : lw_okq (⟨"KindergartenPlanner", "countHeads", "(I)V"⟩, 12) := ⟨⟨by decide +kernel, by decide +kernel⟩, List.mem_of_getElem? (i := 12) (by decide +kernel), List.mem_of_getElem? (i := 179) (by decide +kernel), List.mem_of_getElem? (i := 180) (by decide +kernel)⟩
theorem lw_p4 : lw_okq (⟨"KindergartenPlanner", "areHeadsSafe", "(I)Z"⟩, 12) := ⟨⟨by decide +kernel, by decide +kernel⟩, List.mem_of_getElem? (i := 12) (by decide +kernel), List.mem_of_getElem? (i := 198) (by decide +kernel), List.mem_of_getElem? (i := 199) (by decide +kernel)⟩
theorem lw_p5 : lw_okq (⟨"KindergartenPlanner", "staffIn", "(I)I"⟩, 12) := ⟨⟨by decide +kernel, by decide +kernel⟩, List.mem_of_getElem? (i := 12) (by decide +kernel), List.mem_of_getElem? (i := 210) (by decide +kernel), List.mem_of_getElem? (i := 211) (by decide +kernel)⟩
theorem lw_p6 : lw_okq (⟨"KindergartenPlanner", "firstThatCanBeAdmitted", "()LKindergartenPlanner$Child;"⟩, 12) := ⟨⟨by decide +kernel, by decide +kernel⟩, List.mem_of_getElem? (i := 12) (by decide +kernel), List.mem_of_getElem? (i := 228) (by decide +kernel), List.mem_of_getElem? (i := 229) (by decide +kernel)⟩
theorem lw_p7 : lw_okq (⟨"KindergartenPlanner", "notePriorities", "()V"⟩, 12) := ⟨⟨by decide +kernel, by decide +kernel⟩, List.mem_of_getElem? (i := 12) (by decide +kernel), List.mem_of_getElem? (i := 232) (by decide +kernel), List.mem_of_getElem? (i := 233) (by decide +kernel)⟩
theorem lw_p8 : lw_okq (⟨"KindergartenPlanner", "priorityOf", "(LKindergartenPlanner$Child;I)I"⟩, 12) := ⟨⟨by decide +kernel, by decide +kernel⟩, List.mem_of_getElem? (i := 12) (by decide +kernel), List.mem_of_getElem? (i := 236) (by decide +kernel), List.mem_of_getElem? (i := 237) (by decide +kernel)⟩
theorem lw_p9 : lw_okq (⟨"KindergartenPlanner", "pointsOf", "(LKindergartenPlanner$Child;)I"⟩, 12) := ⟨⟨by decide +kernel, by decide +kernel⟩, List.mem_of_getElem? (i := 12) (by decide +kernel), List.mem_of_getElem? (i := 240) (by decide +kernel), List.mem_of_getElem? (i := 241) (by decide +kernel)⟩
theorem lw_p10 : lw_okq (⟨"KindergartenPlanner", "hasAdmittedChild", "(I)Z"⟩, 12) := ⟨⟨by decide +kernel, by decide +kernel⟩, List.mem_of_getElem? (i := 12) (by decide +kernel), List.mem_of_getElem? (i := 244) (by decide +kernel), List.mem_of_getElem? (i := 245) (by decide +kernel)⟩
theorem lw_p11 : lw_okq (⟨"KindergartenPlanner", "canBeAdmitted", "(LKindergartenPlanner$Child;)Z"⟩, 12) := ⟨⟨by decide +kernel, by decide +kernel⟩, List.mem_of_getElem? (i := 12) (by decide +kernel), List.mem_of_getElem? (i := 248) (by decide +kernel), List.mem_of_getElem? (i := 249) (by decide +kernel)⟩
theorem lw_p12 : lw_okq (⟨"KindergartenPlanner", "educatorAt", "(I)LKindergartenPlanner$Educator;"⟩, 12) := ⟨⟨by decide +kernel, by decide +kernel⟩, List.mem_of_getElem? (i := 12) (by decide +kernel), List.mem_of_getElem? (i := 273) (by decide +kernel), List.mem_of_getElem? (i := 274) (by decide +kernel)⟩
theorem lw_p13 : lw_okq (⟨"KindergartenPlanner", "feeOf", "(LKindergartenPlanner$Child;II)I"⟩, 12) := ⟨⟨by decide +kernel, by decide +kernel⟩, List.mem_of_getElem? (i := 12) (by decide +kernel), List.mem_of_getElem? (i := 392) (by decide +kernel), List.mem_of_getElem? (i := 393) (by decide +kernel)⟩
theorem lw_p14 : lw_okq (⟨"KindergartenPlanner", "percentageOf", "(LKindergartenPlanner$Child;II)I"⟩, 12) := ⟨⟨by decide +kernel, by decide +kernel⟩, List.mem_of_getElem? (i := 12) (by decide +kernel), List.mem_of_getElem? (i := 396) (by decide +kernel), List.mem_of_getElem? (i := 397) (by decide +kernel)⟩
theorem lw_p15 : lw_okq (⟨"KindergartenPlanner", "rankOf", "(LKindergartenPlanner$Child;II)I"⟩, 12) := ⟨⟨by decide +kernel, by decide +kernel⟩, List.mem_of_getElem? (i := 12) (by decide +kernel), List.mem_of_getElem? (i := 400) (by decide +kernel), List.mem_of_getElem? (i := 401) (by decide +kernel)⟩
def lw_privs_1 : List (MethodName × Nat) := [(⟨"KindergartenPlanner", "childAt", "(I)LKindergartenPlanner$Child;"⟩, 12), (⟨"KindergartenPlanner", "rebook", "(LKindergartenPlanner$Child;J)I"⟩, 12), (⟨"KindergartenPlanner", "areSafeWith", "(JLKindergartenPlanner$Child;)Z"⟩, 12), (⟨"KindergartenPlanner", "countHeads", "(I)V"⟩, 12), (⟨"KindergartenPlanner", "areHeadsSafe", "(I)Z"⟩, 12), (⟨"KindergartenPlanner", "staffIn", "(I)I"⟩, 12), (⟨"KindergartenPlanner", "firstThatCanBeAdmitted", "()LKindergartenPlanner$Child;"⟩, 12), (⟨"KindergartenPlanner", "notePriorities", "()V"⟩, 12), (⟨"KindergartenPlanner", "priorityOf", "(LKindergartenPlanner$Child;I)I"⟩, 12), (⟨"KindergartenPlanner", "pointsOf", "(LKindergartenPlanner$Child;)I"⟩, 12), (⟨"KindergartenPlanner", "hasAdmittedChild", "(I)Z"⟩, 12), (⟨"KindergartenPlanner", "canBeAdmitted", "(LKindergartenPlanner$Child;)Z"⟩, 12), (⟨"KindergartenPlanner", "educatorAt", "(I)LKindergartenPlanner$Educator;"⟩, 12), (⟨"KindergartenPlanner", "feeOf", "(LKindergartenPlanner$Child;II)I"⟩, 12), (⟨"KindergartenPlanner", "percentageOf", "(LKindergartenPlanner$Child;II)I"⟩, 12), (⟨"KindergartenPlanner", "rankOf", "(LKindergartenPlanner$Child;II)I"⟩, 12)]
theorem lw_r1 : ∀ q ∈ lw_privs_1, lw_okq q := List.forall_mem_cons.mpr ⟨lw_p0, List.forall_mem_cons.mpr ⟨lw_p1, List.forall_mem_cons.mpr ⟨lw_p2, List.forall_mem_cons.mpr ⟨lw_p3, List.forall_mem_cons.mpr ⟨lw_p4, List.forall_mem_cons.mpr ⟨lw_p5, List.forall_mem_cons.mpr ⟨lw_p6, List.forall_mem_cons.mpr ⟨lw_p7, List.forall_mem_cons.mpr ⟨lw_p8, List.forall_mem_cons.mpr ⟨lw_p9, List.forall_mem_cons.mpr ⟨lw_p10, List.forall_mem_cons.mpr ⟨lw_p11, List.forall_mem_cons.mpr ⟨lw_p12, List.forall_mem_cons.mpr ⟨lw_p13, List.forall_mem_cons.mpr ⟨lw_p14, List.forall_mem_cons.mpr ⟨lw_p15, fun _ h => absurd h List.not_mem_nil⟩⟩⟩⟩⟩⟩⟩⟩⟩⟩⟩⟩⟩⟩⟩⟩
theorem lw_p16 : lw_okq (⟨"KindergartenPlanner", "pays", "(LKindergartenPlanner$Child;II)Z"⟩, 12) := ⟨⟨by decide +kernel, by decide +kernel⟩, List.mem_of_getElem? (i := 12) (by decide +kernel), List.mem_of_getElem? (i := 404) (by decide +kernel), List.mem_of_getElem? (i := 405) (by decide +kernel)⟩
theorem lw_p17 : lw_okq (⟨"KindergartenPlanner", "countAbove", "(I)I"⟩, 12) := ⟨⟨by decide +kernel, by decide +kernel⟩, List.mem_of_getElem? (i := 12) (by decide +kernel), List.mem_of_getElem? (i := 415) (by decide +kernel), List.mem_of_getElem? (i := 416) (by decide +kernel)⟩
theorem lw_p18 : lw_okq (⟨"KindergartenPlanner", "familyFee", "(II)I"⟩, 12) := ⟨⟨by decide +kernel, by decide +kernel⟩, List.mem_of_getElem? (i := 12) (by decide +kernel), List.mem_of_getElem? (i := 423) (by decide +kernel), List.mem_of_getElem? (i := 424) (by decide +kernel)⟩
theorem lw_p19 : lw_okq (⟨"KindergartenPlanner", "needIn", "(I)I"⟩, 12) := ⟨⟨by decide +kernel, by decide +kernel⟩, List.mem_of_getElem? (i := 12) (by decide +kernel), List.mem_of_getElem? (i := 438) (by decide +kernel), List.mem_of_getElem? (i := 439) (by decide +kernel)⟩
theorem lw_p20 : lw_okq (⟨"KindergartenPlanner", "noteNeeds", "()V"⟩, 12) := ⟨⟨by decide +kernel, by decide +kernel⟩, List.mem_of_getElem? (i := 12) (by decide +kernel), List.mem_of_getElem? (i := 472) (by decide +kernel), List.mem_of_getElem? (i := 473) (by decide +kernel)⟩
theorem lw_p21 : lw_okq (⟨"KindergartenPlanner", "shortageOf", "(III)I"⟩, 12) := ⟨⟨by decide +kernel, by decide +kernel⟩, List.mem_of_getElem? (i := 12) (by decide +kernel), List.mem_of_getElem? (i := 476) (by decide +kernel), List.mem_of_getElem? (i := 477) (by decide +kernel)⟩
theorem lw_p22 : lw_okq (⟨"KindergartenPlanner", "staffLeft", "(III)I"⟩, 12) := ⟨⟨by decide +kernel, by decide +kernel⟩, List.mem_of_getElem? (i := 12) (by decide +kernel), List.mem_of_getElem? (i := 480) (by decide +kernel), List.mem_of_getElem? (i := 481) (by decide +kernel)⟩
theorem lw_p23 : lw_okq (⟨"KindergartenPlanner", "leastCostBelow", "(III)I"⟩, 12) := ⟨⟨by decide +kernel, by decide +kernel⟩, List.mem_of_getElem? (i := 12) (by decide +kernel), List.mem_of_getElem? (i := 502) (by decide +kernel), List.mem_of_getElem? (i := 503) (by decide +kernel)⟩
theorem lw_p24 : lw_okq (⟨"KindergartenPlanner$CoverSearch", "keepSets", "(I)V"⟩, 6) := ⟨⟨by decide +kernel, by decide +kernel⟩, List.mem_of_getElem? (i := 40) (by decide +kernel), List.mem_of_getElem? (i := 514) (by decide +kernel), List.mem_of_getElem? (i := 515) (by decide +kernel)⟩
theorem lw_p25 : lw_okq (⟨"KindergartenPlanner$CoverSearch", "canGive", "(II)Z"⟩, 6) := ⟨⟨by decide +kernel, by decide +kernel⟩, List.mem_of_getElem? (i := 40) (by decide +kernel), List.mem_of_getElem? (i := 518) (by decide +kernel), List.mem_of_getElem? (i := 519) (by decide +kernel)⟩
theorem lw_p26 : lw_okq (⟨"KindergartenPlanner$CoverSearch", "give", "(II)V"⟩, 6) := ⟨⟨by decide +kernel, by decide +kernel⟩, List.mem_of_getElem? (i := 40) (by decide +kernel), List.mem_of_getElem? (i := 535) (by decide +kernel), List.mem_of_getElem? (i := 536) (by decide +kernel)⟩
theorem lw_p27 : lw_okq (⟨"KindergartenPlanner$CoverSearch", "wagesOf", "(I)I"⟩, 6) := ⟨⟨by decide +kernel, by decide +kernel⟩, List.mem_of_getElem? (i := 40) (by decide +kernel), List.mem_of_getElem? (i := 539) (by decide +kernel), List.mem_of_getElem? (i := 540) (by decide +kernel)⟩
def lw_privs_2 : List (MethodName × Nat) := [(⟨"KindergartenPlanner", "pays", "(LKindergartenPlanner$Child;II)Z"⟩, 12), (⟨"KindergartenPlanner", "countAbove", "(I)I"⟩, 12), (⟨"KindergartenPlanner", "familyFee", "(II)I"⟩, 12), (⟨"KindergartenPlanner", "needIn", "(I)I"⟩, 12), (⟨"KindergartenPlanner", "noteNeeds", "()V"⟩, 12), (⟨"KindergartenPlanner", "shortageOf", "(III)I"⟩, 12), (⟨"KindergartenPlanner", "staffLeft", "(III)I"⟩, 12), (⟨"KindergartenPlanner", "leastCostBelow", "(III)I"⟩, 12), (⟨"KindergartenPlanner$CoverSearch", "keepSets", "(I)V"⟩, 6), (⟨"KindergartenPlanner$CoverSearch", "canGive", "(II)Z"⟩, 6), (⟨"KindergartenPlanner$CoverSearch", "give", "(II)V"⟩, 6), (⟨"KindergartenPlanner$CoverSearch", "wagesOf", "(I)I"⟩, 6)]
theorem lw_r2 : ∀ q ∈ lw_privs_2, lw_okq q := List.forall_mem_cons.mpr ⟨lw_p16, List.forall_mem_cons.mpr ⟨lw_p17, List.forall_mem_cons.mpr ⟨lw_p18, List.forall_mem_cons.mpr ⟨lw_p19, List.forall_mem_cons.mpr ⟨lw_p20, List.forall_mem_cons.mpr ⟨lw_p21, List.forall_mem_cons.mpr ⟨lw_p22, List.forall_mem_cons.mpr ⟨lw_p23, List.forall_mem_cons.mpr ⟨lw_p24, List.forall_mem_cons.mpr ⟨lw_p25, List.forall_mem_cons.mpr ⟨lw_p26, List.forall_mem_cons.mpr ⟨lw_p27, fun _ h => absurd h List.not_mem_nil⟩⟩⟩⟩⟩⟩⟩⟩⟩⟩⟩⟩
def lw_privs : List (MethodName × Nat) := lw_privs_1 ++ (lw_privs_2)
def lw_tbl : List Cond := k2_sels lw_privs ++ tables_1
theorem lw_privs_ok : ∀ q ∈ lw_privs, lw_okq q := by
  show ∀ q ∈ lw_privs_1 ++ (lw_privs_2), lw_okq q
  exact List.forall_mem_append.mpr ⟨lw_r1, lw_r2⟩
/-- the streams that the claim lets the run draw from -/
abbrev lw_cs : List Choice := [Jvm.Choice.named "NaN.bits"]
theorem lw_bits : nanBits ∈ lw_cs := by first | decide | exact List.mem_cons_self | simp [lw_cs, nanBits]
-- ===== end of PART A; then your names; then what follows =====
/-- the method of a word of the Statement's tables -/
def lw_meth : Option Cond → MethodName
  | some (.instanceMethod y) => y
  | _ => ⟨"", "", ""⟩
def RX0 : String := "KindergartenPlanner$Child"
def TX0 : u_T := fun k => match k with
  | 0 => ("KindergartenPlanner$Child", "family", "I", true)
  | 1 => ("KindergartenPlanner$Child", "months", "I", false)
  | 2 => ("KindergartenPlanner$Child", "monthsWaited", "I", false)
  | 3 => ("KindergartenPlanner$Child", "admitted", "Z", false)
  | _ => ("KindergartenPlanner$Child", "booked", "J", false)
def tyX0 : Nat → FieldType := fun k => match k with
  | 0 => .int
  | 1 => .int
  | 2 => .int
  | 3 => .boolean
  | _ => .long
abbrev wsX00 : List Cond := u_ws RX0 TX0 5
theorem nmX0 : ∀ a, a < 5 → ∀ b, b < 5 → a ≠ b → (TX0 a).2.1 ≠ (TX0 b).2.1 := by decide +kernel
theorem tyX0_ok : ∀ k, k < 5 → parseFieldDescriptor (TX0 k).2.2.1 = some (tyX0 k) := by decide +kernel
abbrev cX0_init : ByteArray := prog_2_method_1_code
def yX0_init : MethodName := ⟨RX0, "<init>", "(II)V"⟩
abbrev cX0_bookedHours : ByteArray := prog_2_method_2_code
def yX0_bookedHours : MethodName := ⟨RX0, "bookedHours", "()I"⟩
abbrev cX0_group : ByteArray := prog_2_method_3_code
def yX0_group : MethodName := ⟨RX0, "group", "()I"⟩
def RX1 : String := "KindergartenPlanner$CoverSearch"
def TX1 : u_T := fun k => match k with
  | 0 => ("KindergartenPlanner$CoverSearch", "substitutes", "[LKindergartenPlanner$Substitute;", true)
  | 1 => ("KindergartenPlanner$CoverSearch", "count", "I", false)
  | 2 => ("KindergartenPlanner$CoverSearch", "sets", "[I", true)
  | 3 => ("KindergartenPlanner$CoverSearch", "bestCost", "I", false)
  | 4 => ("KindergartenPlanner$CoverSearch", "shortages", "[I", true)
  | _ => ("KindergartenPlanner$CoverSearch", "bestSets", "[I", true)
def tyX1 : Nat → FieldType := fun k => match k with
  | 0 => .array (.object "KindergartenPlanner$Substitute")
  | 1 => .int
  | 2 => .array .int
  | 3 => .int
  | 4 => .array .int
  | _ => .array .int
abbrev wsX10 : List Cond := u_ws RX1 TX1 6
theorem nmX1 : ∀ a, a < 6 → ∀ b, b < 6 → a ≠ b → (TX1 a).2.1 ≠ (TX1 b).2.1 := by decide +kernel
theorem tyX1_ok : ∀ k, k < 6 → parseFieldDescriptor (TX1 k).2.2.1 = some (tyX1 k) := by decide +kernel
abbrev cX1_init : ByteArray := prog_3_method_1_code
def yX1_init : MethodName := ⟨RX1, "<init>", "()V"⟩
abbrev cX1_join : ByteArray := prog_3_method_2_code
def yX1_join : MethodName := ⟨RX1, "join", "(III)I"⟩
abbrev cX1_leastCostBelow : ByteArray := prog_3_method_3_code
def yX1_leastCostBelow : MethodName := ⟨RX1, "leastCostBelow", "(I)I"⟩
abbrev cX1_coverFrom : ByteArray := prog_3_method_4_code
def yX1_coverFrom : MethodName := ⟨RX1, "coverFrom", "(LKindergartenPlanner$CoverSearch;II)V"⟩
abbrev cX1_keepSets : ByteArray := prog_3_method_5_code
def yX1_keepSets : MethodName := ⟨RX1, "keepSets", "(I)V"⟩
abbrev cX1_canGive : ByteArray := prog_3_method_6_code
def yX1_canGive : MethodName := ⟨RX1, "canGive", "(II)Z"⟩
abbrev cX1_give : ByteArray := prog_3_method_7_code
def yX1_give : MethodName := ⟨RX1, "give", "(II)V"⟩
abbrev cX1_wagesOf : ByteArray := prog_3_method_8_code
def yX1_wagesOf : MethodName := ⟨RX1, "wagesOf", "(I)I"⟩
abbrev cX1_isIn : ByteArray := prog_3_method_9_code
def yX1_isIn : MethodName := ⟨RX1, "isIn", "(II)Z"⟩
def RX2 : String := "KindergartenPlanner$Educator"
def TX2 : u_T := fun k => match k with
  | 0 => ("KindergartenPlanner$Educator", "working", "J", false)
  | _ => ("KindergartenPlanner$Educator", "holidays", "J", false)
def tyX2 : Nat → FieldType := fun k => match k with
  | 0 => .long
  | _ => .long
abbrev wsX20 : List Cond := u_ws RX2 TX2 2
theorem nmX2 : ∀ a, a < 2 → ∀ b, b < 2 → a ≠ b → (TX2 a).2.1 ≠ (TX2 b).2.1 := by decide +kernel
theorem tyX2_ok : ∀ k, k < 2 → parseFieldDescriptor (TX2 k).2.2.1 = some (tyX2 k) := by decide +kernel
abbrev cX2_init : ByteArray := prog_4_method_1_code
def yX2_init : MethodName := ⟨RX2, "<init>", "()V"⟩
abbrev cX2_hasHoliday : ByteArray := prog_4_method_2_code
def yX2_hasHoliday : MethodName := ⟨RX2, "hasHoliday", "(I)Z"⟩
def RX3 : String := "KindergartenPlanner$Headcount"
def TX3 : u_T := fun k => match k with
  | _ => ("KindergartenPlanner$Headcount", "counts", "[I", true)
def tyX3 : Nat → FieldType := fun k => match k with
  | _ => .array .int
abbrev wsX30 : List Cond := u_ws RX3 TX3 1
theorem nmX3 : ∀ a, a < 1 → ∀ b, b < 1 → a ≠ b → (TX3 a).2.1 ≠ (TX3 b).2.1 := by decide +kernel
theorem tyX3_ok : ∀ k, k < 1 → parseFieldDescriptor (TX3 k).2.2.1 = some (tyX3 k) := by decide +kernel
abbrev cX3_init : ByteArray := prog_5_method_1_code
def yX3_init : MethodName := ⟨RX3, "<init>", "()V"⟩
abbrev cX3_clear : ByteArray := prog_5_method_2_code
def yX3_clear : MethodName := ⟨RX3, "clear", "()V"⟩
abbrev cX3_add : ByteArray := prog_5_method_3_code
def yX3_add : MethodName := ⟨RX3, "add", "(I)V"⟩
abbrev cX3_total : ByteArray := prog_5_method_4_code
def yX3_total : MethodName := ⟨RX3, "total", "()I"⟩
abbrev cX3_needAt : ByteArray := prog_5_method_5_code
def yX3_needAt : MethodName := ⟨RX3, "needAt", "(III)I"⟩
def RX4 : String := "KindergartenPlanner$Sheet"
def TX4 : u_T := fun k => match k with
  | 0 => ("KindergartenPlanner$Sheet", "signs", "[C", true)
  | 1 => ("KindergartenPlanner$Sheet", "length", "I", false)
  | _ => ("KindergartenPlanner$Sheet", "booked", "J", false)
def tyX4 : Nat → FieldType := fun k => match k with
  | 0 => .array .char
  | 1 => .int
  | _ => .long
abbrev wsX40 : List Cond := u_ws RX4 TX4 3
theorem nmX4 : ∀ a, a < 3 → ∀ b, b < 3 → a ≠ b → (TX4 a).2.1 ≠ (TX4 b).2.1 := by decide +kernel
theorem tyX4_ok : ∀ k, k < 3 → parseFieldDescriptor (TX4 k).2.2.1 = some (tyX4 k) := by decide +kernel
abbrev cX4_init : ByteArray := prog_6_method_1_code
def yX4_init : MethodName := ⟨RX4, "<init>", "()V"⟩
def RX5 : String := "KindergartenPlanner$Substitute"
def TX5 : u_T := fun k => match k with
  | 0 => ("KindergartenPlanner$Substitute", "days", "I", true)
  | 1 => ("KindergartenPlanner$Substitute", "most", "I", true)
  | 2 => ("KindergartenPlanner$Substitute", "wage", "I", true)
  | _ => ("KindergartenPlanner$Substitute", "given", "I", false)
def tyX5 : Nat → FieldType := fun k => match k with
  | 0 => .int
  | 1 => .int
  | 2 => .int
  | _ => .int
abbrev wsX50 : List Cond := u_ws RX5 TX5 4
theorem nmX5 : ∀ a, a < 4 → ∀ b, b < 4 → a ≠ b → (TX5 a).2.1 ≠ (TX5 b).2.1 := by decide +kernel
theorem tyX5_ok : ∀ k, k < 4 → parseFieldDescriptor (TX5 k).2.2.1 = some (tyX5 k) := by decide +kernel
abbrev cX5_init : ByteArray := prog_7_method_1_code
def yX5_init : MethodName := ⟨RX5, "<init>", "(III)V"⟩
abbrev cX5_canTake : ByteArray := prog_7_method_2_code
def yX5_canTake : MethodName := ⟨RX5, "canTake", "(I)Z"⟩
def RX6 : String := "KindergartenPlanner"
def TX6 : u_T := fun k => match k with
  | 0 => ("KindergartenPlanner", "children", "[LKindergartenPlanner$Child;", true)
  | 1 => ("KindergartenPlanner", "educators", "[LKindergartenPlanner$Educator;", true)
  | 2 => ("KindergartenPlanner", "ratios", "[I", true)
  | 3 => ("KindergartenPlanner", "rates", "[I", true)
  | 4 => ("KindergartenPlanner", "roomLimit", "I", false)
  | 5 => ("KindergartenPlanner", "month", "I", false)
  | 6 => ("KindergartenPlanner", "keptCover", "[I", true)
  | 7 => ("KindergartenPlanner", "sheet", "LKindergartenPlanner$Sheet;", true)
  | 8 => ("KindergartenPlanner", "search", "LKindergartenPlanner$CoverSearch;", true)
  | 9 => ("KindergartenPlanner", "heads", "LKindergartenPlanner$Headcount;", true)
  | 10 => ("KindergartenPlanner", "priorities", "[I", true)
  | _ => ("KindergartenPlanner", "needs", "[I", true)
def tyX6 : Nat → FieldType := fun k => match k with
  | 0 => .array (.object "KindergartenPlanner$Child")
  | 1 => .array (.object "KindergartenPlanner$Educator")
  | 2 => .array .int
  | 3 => .array .int
  | 4 => .int
  | 5 => .int
  | 6 => .array .int
  | 7 => .object "KindergartenPlanner$Sheet"
  | 8 => .object "KindergartenPlanner$CoverSearch"
  | 9 => .object "KindergartenPlanner$Headcount"
  | 10 => .array .int
  | _ => .array .int
abbrev wsX60 : List Cond := u_ws RX6 TX6 12
theorem nmX6 : ∀ a, a < 12 → ∀ b, b < 12 → a ≠ b → (TX6 a).2.1 ≠ (TX6 b).2.1 := by decide +kernel
theorem tyX6_ok : ∀ k, k < 12 → parseFieldDescriptor (TX6 k).2.2.1 = some (tyX6 k) := by decide +kernel
abbrev cX6_init : ByteArray := prog_1_method_1_code
def yX6_init : MethodName := ⟨RX6, "<init>", "()V"⟩
abbrev cX6_addChild : ByteArray := prog_1_method_2_code
def yX6_addChild : MethodName := ⟨RX6, "addChild", "(II)I"⟩
abbrev cX6_children : ByteArray := prog_1_method_4_code
def yX6_children : MethodName := ⟨RX6, "children", "()I"⟩
abbrev cX6_age : ByteArray := prog_1_method_5_code
def yX6_age : MethodName := ⟨RX6, "age", "(I)I"⟩
abbrev cX6_isAdmitted : ByteArray := prog_1_method_6_code
def yX6_isAdmitted : MethodName := ⟨RX6, "isAdmitted", "(I)I"⟩
abbrev cX6_hours : ByteArray := prog_1_method_7_code
def yX6_hours : MethodName := ⟨RX6, "hours", "(I)I"⟩
abbrev cX6_book : ByteArray := prog_1_method_8_code
def yX6_book : MethodName := ⟨RX6, "book", "(IIII)I"⟩
abbrev cX6_childAt : ByteArray := prog_1_method_10_code
def yX6_childAt : MethodName := ⟨RX6, "childAt", "(I)LKindergartenPlanner$Child;"⟩
abbrev cX6_rebook : ByteArray := prog_1_method_11_code
def yX6_rebook : MethodName := ⟨RX6, "rebook", "(LKindergartenPlanner$Child;J)I"⟩
abbrev cX6_waited : ByteArray := prog_1_method_12_code
def yX6_waited : MethodName := ⟨RX6, "waited", "(I)I"⟩
abbrev cX6_points : ByteArray := prog_1_method_13_code
def yX6_points : MethodName := ⟨RX6, "points", "(I)I"⟩
abbrev cX6_waiting : ByteArray := prog_1_method_14_code
def yX6_waiting : MethodName := ⟨RX6, "waiting", "(I)I"⟩
abbrev cX6_admit : ByteArray := prog_1_method_15_code
def yX6_admit : MethodName := ⟨RX6, (lw_meth (tables_1_1[224]?)).name, "()I"⟩
abbrev cX6_pointsOf : ByteArray := prog_1_method_17_code
def yX6_pointsOf : MethodName := ⟨RX6, "pointsOf", "(LKindergartenPlanner$Child;)I"⟩
abbrev cX6_hasAdmittedChild : ByteArray := prog_1_method_18_code
def yX6_hasAdmittedChild : MethodName := ⟨RX6, "hasAdmittedChild", "(I)Z"⟩
abbrev cX6_notePriorities : ByteArray := prog_1_method_19_code
def yX6_notePriorities : MethodName := ⟨RX6, "notePriorities", "()V"⟩
abbrev cX6_priorityOf : ByteArray := prog_1_method_20_code
def yX6_priorityOf : MethodName := ⟨RX6, "priorityOf", "(LKindergartenPlanner$Child;I)I"⟩
abbrev cX6_countAbove : ByteArray := prog_1_method_21_code
def yX6_countAbove : MethodName := ⟨RX6, "countAbove", "(I)I"⟩
abbrev cX6_firstThatCanBeAdmitted : ByteArray := prog_1_method_22_code
def yX6_firstThatCanBeAdmitted : MethodName := ⟨RX6, "firstThatCanBeAdmitted", "()LKindergartenPlanner$Child;"⟩
abbrev cX6_canBeAdmitted : ByteArray := prog_1_method_23_code
def yX6_canBeAdmitted : MethodName := ⟨RX6, "canBeAdmitted", "(LKindergartenPlanner$Child;)Z"⟩
abbrev cX6_addEducator : ByteArray := prog_1_method_24_code
def yX6_addEducator : MethodName := ⟨RX6, "addEducator", "()I"⟩
abbrev cX6_work : ByteArray := prog_1_method_27_code
def yX6_work : MethodName := ⟨RX6, "work", "(IIII)I"⟩
abbrev cX6_setHoliday : ByteArray := prog_1_method_28_code
def yX6_setHoliday : MethodName := ⟨RX6, "setHoliday", "(IIZ)I"⟩
abbrev cX6_setRatio : ByteArray := prog_1_method_29_code
def yX6_setRatio : MethodName := ⟨RX6, "setRatio", "(II)I"⟩
abbrev cX6_setRoomLimit : ByteArray := prog_1_method_30_code
def yX6_setRoomLimit : MethodName := ⟨RX6, "setRoomLimit", "(I)I"⟩
abbrev cX6_educatorAt : ByteArray := prog_1_method_31_code
def yX6_educatorAt : MethodName := ⟨RX6, "educatorAt", "(I)LKindergartenPlanner$Educator;"⟩
abbrev cX6_present : ByteArray := prog_1_method_32_code
def yX6_present : MethodName := ⟨RX6, "present", "(II)I"⟩
abbrev cX6_need : ByteArray := prog_1_method_33_code
def yX6_need : MethodName := ⟨RX6, "need", "(II)I"⟩
abbrev cX6_staff : ByteArray := prog_1_method_34_code
def yX6_staff : MethodName := ⟨RX6, "staff", "(II)I"⟩
abbrev cX6_unsafeHours : ByteArray := prog_1_method_35_code
def yX6_unsafeHours : MethodName := ⟨RX6, "unsafeHours", "()I"⟩
abbrev cX6_load : ByteArray := prog_1_method_36_code
def yX6_load : MethodName := ⟨RX6, "load", "(I)D"⟩
abbrev cX6_countHeads : ByteArray := prog_1_method_37_code
def yX6_countHeads : MethodName := ⟨RX6, "countHeads", "(I)V"⟩
abbrev cX6_needIn : ByteArray := prog_1_method_38_code
def yX6_needIn : MethodName := ⟨RX6, "needIn", "(I)I"⟩
abbrev cX6_staffIn : ByteArray := prog_1_method_39_code
def yX6_staffIn : MethodName := ⟨RX6, "staffIn", "(I)I"⟩
abbrev cX6_areHeadsSafe : ByteArray := prog_1_method_40_code
def yX6_areHeadsSafe : MethodName := ⟨RX6, "areHeadsSafe", "(I)Z"⟩
abbrev cX6_areSafeWith : ByteArray := prog_1_method_41_code
def yX6_areSafeWith : MethodName := ⟨RX6, "areSafeWith", "(JLKindergartenPlanner$Child;)Z"⟩
abbrev cX6_setRate : ByteArray := prog_1_method_42_code
def yX6_setRate : MethodName := ⟨RX6, "setRate", "(II)I"⟩
abbrev cX6_fee : ByteArray := prog_1_method_43_code
def yX6_fee : MethodName := ⟨RX6, "fee", "(I)I"⟩
abbrev cX6_income : ByteArray := prog_1_method_44_code
def yX6_income : MethodName := ⟨RX6, "income", "()I"⟩
abbrev cX6_familyFeeIfAdmitted : ByteArray := prog_1_method_45_code
def yX6_familyFeeIfAdmitted : MethodName := ⟨RX6, "familyFeeIfAdmitted", "(I)I"⟩
abbrev cX6_familyFee : ByteArray := prog_1_method_46_code
def yX6_familyFee : MethodName := ⟨RX6, "familyFee", "(II)I"⟩
abbrev cX6_pays : ByteArray := prog_1_method_47_code
def yX6_pays : MethodName := ⟨RX6, "pays", "(LKindergartenPlanner$Child;II)Z"⟩
abbrev cX6_feeOf : ByteArray := prog_1_method_48_code
def yX6_feeOf : MethodName := ⟨RX6, "feeOf", "(LKindergartenPlanner$Child;II)I"⟩
abbrev cX6_percentageOf : ByteArray := prog_1_method_49_code
def yX6_percentageOf : MethodName := ⟨RX6, "percentageOf", "(LKindergartenPlanner$Child;II)I"⟩
abbrev cX6_rankOf : ByteArray := prog_1_method_50_code
def yX6_rankOf : MethodName := ⟨RX6, "rankOf", "(LKindergartenPlanner$Child;II)I"⟩
abbrev cX6_addSubstitute : ByteArray := prog_1_method_51_code
def yX6_addSubstitute : MethodName := ⟨RX6, "addSubstitute", "(III)I"⟩
abbrev cX6_shortage : ByteArray := prog_1_method_52_code
def yX6_shortage : MethodName := ⟨RX6, "shortage", "(II)I"⟩
abbrev cX6_cover : ByteArray := prog_1_method_53_code
def yX6_cover : MethodName := ⟨RX6, "cover", "(I)I"⟩
abbrev cX6_coverOf : ByteArray := prog_1_method_54_code
def yX6_coverOf : MethodName := ⟨RX6, "coverOf", "(I)I"⟩
abbrev cX6_cheapestHoliday : ByteArray := prog_1_method_55_code
def yX6_cheapestHoliday : MethodName := ⟨RX6, "cheapestHoliday", "(I)I"⟩
abbrev cX6_noteNeeds : ByteArray := prog_1_method_56_code
def yX6_noteNeeds : MethodName := ⟨RX6, "noteNeeds", "()V"⟩
abbrev cX6_shortageOf : ByteArray := prog_1_method_57_code
def yX6_shortageOf : MethodName := ⟨RX6, "shortageOf", "(III)I"⟩
abbrev cX6_staffLeft : ByteArray := prog_1_method_58_code
def yX6_staffLeft : MethodName := ⟨RX6, "staffLeft", "(III)I"⟩
abbrev cX6_leastCostBelow : ByteArray := prog_1_method_59_code
def yX6_leastCostBelow : MethodName := ⟨RX6, "leastCostBelow", "(III)I"⟩
abbrev cX6_isDay : ByteArray := prog_1_method_67_code
def yX6_isDay : MethodName := ⟨RX6, "isDay", "(I)Z"⟩
abbrev cX6_isHour : ByteArray := prog_1_method_68_code
def yX6_isHour : MethodName := ⟨RX6, "isHour", "(I)Z"⟩
abbrev cX6_isWeek : ByteArray := prog_1_method_69_code
def yX6_isWeek : MethodName := ⟨RX6, "isWeek", "(I)Z"⟩
abbrev cX6_isGroup : ByteArray := prog_1_method_70_code
def yX6_isGroup : MethodName := ⟨RX6, "isGroup", "(I)Z"⟩
abbrev cX6_isSpan : ByteArray := prog_1_method_71_code
def yX6_isSpan : MethodName := ⟨RX6, "isSpan", "(II)Z"⟩
abbrev cX6_hourOfWeek : ByteArray := prog_1_method_72_code
def yX6_hourOfWeek : MethodName := ⟨RX6, "hourOfWeek", "(II)I"⟩
abbrev cX6_hasHour : ByteArray := prog_1_method_73_code
def yX6_hasHour : MethodName := ⟨RX6, "hasHour", "(JI)Z"⟩
abbrev cX6_spanOf : ByteArray := prog_1_method_74_code
def yX6_spanOf : MethodName := ⟨RX6, "spanOf", "(III)J"⟩
abbrev cX6_withSpan : ByteArray := prog_1_method_75_code
def yX6_withSpan : MethodName := ⟨RX6, "withSpan", "(JIII)J"⟩
def RX7 : String := "KindergartenPlannerModel"
def TX7 : u_T := fun k => match k with
  | _ => ("", "", "", false)
def tyX7 : Nat → FieldType := fun k => match k with
  | _ => .int
abbrev wsX70 : List Cond := u_ws RX7 TX7 0
theorem nmX7 : ∀ a, a < 0 → ∀ b, b < 0 → a ≠ b → (TX7 a).2.1 ≠ (TX7 b).2.1 := by decide +kernel
theorem tyX7_ok : ∀ k, k < 0 → parseFieldDescriptor (TX7 k).2.2.1 = some (tyX7 k) := by decide +kernel
def RJ6 : String := "java/lang/Integer"
def TJ6 : u_T := fun k => match k with
  | _ => ("", "", "", false)
def tyJ6 : Nat → FieldType := fun k => match k with
  | _ => .int
abbrev wsJ60 : List Cond := u_ws RJ6 TJ6 0
theorem nmJ6 : ∀ a, a < 0 → ∀ b, b < 0 → a ≠ b → (TJ6 a).2.1 ≠ (TJ6 b).2.1 := by decide +kernel
theorem tyJ6_ok : ∀ k, k < 0 → parseFieldDescriptor (TJ6 k).2.2.1 = some (tyJ6 k) := by decide +kernel
abbrev cJ6_bitCount_0f7a4 : ByteArray := prog_10_method_49_code
def yJ6_bitCount_0f7a4 : MethodName := ⟨RJ6, "bitCount", "(I)I"⟩
def RJ13 : String := "java/lang/Long"
def TJ13 : u_T := fun k => match k with
  | _ => ("", "", "", false)
def tyJ13 : Nat → FieldType := fun k => match k with
  | _ => .int
abbrev wsJ130 : List Cond := u_ws RJ13 TJ13 0
theorem nmJ13 : ∀ a, a < 0 → ∀ b, b < 0 → a ≠ b → (TJ13 a).2.1 ≠ (TJ13 b).2.1 := by decide +kernel
theorem tyJ13_ok : ∀ k, k < 0 → parseFieldDescriptor (TJ13 k).2.2.1 = some (tyJ13 k) := by decide +kernel
abbrev cJ13_bitCount_95d88 : ByteArray := prog_11_method_50_code
def yJ13_bitCount_95d88 : MethodName := ⟨RJ13, "bitCount", "(J)I"⟩
def RJ9 : String := "java/lang/Math"
def TJ9 : u_T := fun k => match k with
  | _ => ("", "", "", false)
def tyJ9 : Nat → FieldType := fun k => match k with
  | _ => .int
abbrev wsJ90 : List Cond := u_ws RJ9 TJ9 0
theorem nmJ9 : ∀ a, a < 0 → ∀ b, b < 0 → a ≠ b → (TJ9 a).2.1 ≠ (TJ9 b).2.1 := by decide +kernel
theorem tyJ9_ok : ∀ k, k < 0 → parseFieldDescriptor (TJ9 k).2.2.1 = some (tyJ9 k) := by decide +kernel
abbrev cJ9_max_7cf53 : ByteArray := prog_12_method_65_code
def yJ9_max_7cf53 : MethodName := ⟨RJ9, "max", "(II)I"⟩
def RL : String := "KindergartenPlannerLaw"
abbrev cL_cell : ByteArray := method_2_code
def yL_cell : MethodName := ⟨RL, "cell", "([II)I"⟩
abbrev cL_low : ByteArray := method_3_code
def yL_low : MethodName := ⟨RL, "low", "(II)I"⟩
abbrev cL_group : ByteArray := method_4_code
def yL_group : MethodName := ⟨RL, "group", "(I)I"⟩
abbrev cL_in : ByteArray := method_5_code
def yL_in : MethodName := ⟨RL, "in", "(III[I)Z"⟩
abbrev cL_hours : ByteArray := method_6_code
def yL_hours : MethodName := ⟨RL, "hours", "(I[I)I"⟩
abbrev cL_need : ByteArray := method_7_code
def yL_need : MethodName := ⟨RL, "need", "(II[I[I[I)I"⟩
abbrev cL_present : ByteArray := method_8_code
def yL_present : MethodName := ⟨RL, "present", "(II[I[I[I)I"⟩
abbrev cL_staff : ByteArray := method_9_code
def yL_staff : MethodName := ⟨RL, "staff", "(III[I[I[I)I"⟩
abbrev cL_safe : ByteArray := method_10_code
def yL_safe : MethodName := ⟨RL, "safe", "(II[I[I[I[I[I)Z"⟩
abbrev cL_points : ByteArray := method_11_code
def yL_points : MethodName := ⟨RL, "points", "(I[I[I[I)I"⟩
abbrev cL_before : ByteArray := method_12_code
def yL_before : MethodName := ⟨RL, "before", "(II[I[I[I)Z"⟩
abbrev cL_next : ByteArray := method_13_code
def yL_next : MethodName := ⟨RL, "next", "([I[I[I[I[I)I"⟩
abbrev cL_fee : ByteArray := method_14_code
def yL_fee : MethodName := ⟨RL, "fee", "(I[I[I[I)I"⟩
abbrev cL_same : ByteArray := method_15_code
def yL_same : MethodName := ⟨RL, "same", "(LKindergartenPlanner;[I[I[I[I[I)Z"⟩
abbrev cL_shortage : ByteArray := method_16_code
def yL_shortage : MethodName := ⟨RL, "shortage", "(II[I[I[I[I[I)I"⟩
abbrev cL_cover : ByteArray := method_17_code
def yL_cover : MethodName := ⟨RL, "cover", "(II[I[I[I[I[I[I[I)I"⟩
abbrev cL_covered : ByteArray := method_18_code
def yL_covered : MethodName := ⟨RL, "covered", "(LKindergartenPlanner;I[I[I[I[I[I[I)Z"⟩
abbrev cL_span : ByteArray := method_19_code
def yL_span : MethodName := ⟨RL, "span", "(III[I)Z"⟩
abbrev cL_law : ByteArray := code
def yL_law : MethodName := ⟨RL, "law", "([I)Z"⟩
theorem dX0_init_0 : decode cX0_init 0 = .ok (.aload_n 0, 1) := by decide +kernel
theorem dX0_init_1 : decode cX0_init 1 = .ok (.invokespecial 1, 3) := by decide +kernel
theorem dX0_init_4 : decode cX0_init 4 = .ok (.aload_n 0, 1) := by decide +kernel
theorem dX0_init_5 : decode cX0_init 5 = .ok (.iload_n 1, 1) := by decide +kernel
theorem dX0_init_6 : decode cX0_init 6 = .ok (.putfield 7, 3) := by decide +kernel
theorem dX0_init_9 : decode cX0_init 9 = .ok (.aload_n 0, 1) := by decide +kernel
theorem dX0_init_10 : decode cX0_init 10 = .ok (.iload_n 2, 1) := by decide +kernel
theorem dX0_init_11 : decode cX0_init 11 = .ok (.putfield 13, 3) := by decide +kernel
theorem dX0_init_14 : decode cX0_init 14 = .ok (.return_, 1) := by decide +kernel
theorem dX0_bookedHours_0 : decode cX0_bookedHours 0 = .ok (.aload_n 0, 1) := by decide +kernel
theorem dX0_bookedHours_1 : decode cX0_bookedHours 1 = .ok (.getfield 16, 3) := by decide +kernel
theorem dX0_bookedHours_4 : decode cX0_bookedHours 4 = .ok (.invokestatic 20, 3) := by decide +kernel
theorem dX0_bookedHours_7 : decode cX0_bookedHours 7 = .ok (.ireturn, 1) := by decide +kernel
theorem dX0_group_0 : decode cX0_group 0 = .ok (.aload_n 0, 1) := by decide +kernel
theorem dX0_group_1 : decode cX0_group 1 = .ok (.getfield 7, 3) := by decide +kernel
theorem dX0_group_4 : decode cX0_group 4 = .ok (.bipush 24, 2) := by decide +kernel
theorem dX0_group_6 : decode cX0_group 6 = .ok (.if_icmp .ge 5, 3) := by decide +kernel
theorem dX0_group_9 : decode cX0_group 9 = .ok (.iconst 0, 1) := by decide +kernel
theorem dX0_group_10 : decode cX0_group 10 = .ok (.ireturn, 1) := by decide +kernel
theorem dX0_group_11 : decode cX0_group 11 = .ok (.aload_n 0, 1) := by decide +kernel
theorem dX0_group_12 : decode cX0_group 12 = .ok (.getfield 7, 3) := by decide +kernel
theorem dX0_group_15 : decode cX0_group 15 = .ok (.bipush 36, 2) := by decide +kernel
theorem dX0_group_17 : decode cX0_group 17 = .ok (.if_icmp .ge 7, 3) := by decide +kernel
theorem dX0_group_20 : decode cX0_group 20 = .ok (.iconst 1, 1) := by decide +kernel
theorem dX0_group_21 : decode cX0_group 21 = .ok (.goto 4, 3) := by decide +kernel
theorem dX0_group_24 : decode cX0_group 24 = .ok (.iconst 2, 1) := by decide +kernel
theorem dX0_group_25 : decode cX0_group 25 = .ok (.ireturn, 1) := by decide +kernel
theorem dX1_init_0 : decode cX1_init 0 = .ok (.aload_n 0, 1) := by decide +kernel
theorem dX1_init_1 : decode cX1_init 1 = .ok (.invokespecial 3, 3) := by decide +kernel
theorem dX1_init_4 : decode cX1_init 4 = .ok (.aload_n 0, 1) := by decide +kernel
theorem dX1_init_5 : decode cX1_init 5 = .ok (.iconst 4, 1) := by decide +kernel
theorem dX1_init_6 : decode cX1_init 6 = .ok (.anewarray 9, 3) := by decide +kernel
theorem dX1_init_9 : decode cX1_init 9 = .ok (.putfield 11, 3) := by decide +kernel
theorem dX1_init_12 : decode cX1_init 12 = .ok (.aload_n 0, 1) := by decide +kernel
theorem dX1_init_13 : decode cX1_init 13 = .ok (.iconst 5, 1) := by decide +kernel
theorem dX1_init_14 : decode cX1_init 14 = .ok (.newarray .int, 2) := by decide +kernel
theorem dX1_init_16 : decode cX1_init 16 = .ok (.putfield 17, 3) := by decide +kernel
theorem dX1_init_19 : decode cX1_init 19 = .ok (.aload_n 0, 1) := by decide +kernel
theorem dX1_init_20 : decode cX1_init 20 = .ok (.iconst 5, 1) := by decide +kernel
theorem dX1_init_21 : decode cX1_init 21 = .ok (.newarray .int, 2) := by decide +kernel
theorem dX1_init_23 : decode cX1_init 23 = .ok (.putfield 21, 3) := by decide +kernel
theorem dX1_init_26 : decode cX1_init 26 = .ok (.aload_n 0, 1) := by decide +kernel
theorem dX1_init_27 : decode cX1_init 27 = .ok (.iconst 5, 1) := by decide +kernel
theorem dX1_init_28 : decode cX1_init 28 = .ok (.newarray .int, 2) := by decide +kernel
theorem dX1_init_30 : decode cX1_init 30 = .ok (.putfield 24, 3) := by decide +kernel
theorem dX1_init_33 : decode cX1_init 33 = .ok (.return_, 1) := by decide +kernel
theorem dX1_join_0 : decode cX1_join 0 = .ok (.aload_n 0, 1) := by decide +kernel
theorem dX1_join_1 : decode cX1_join 1 = .ok (.getfield 27, 3) := by decide +kernel
theorem dX1_join_4 : decode cX1_join 4 = .ok (.aload_n 0, 1) := by decide +kernel
theorem dX1_join_5 : decode cX1_join 5 = .ok (.getfield 11, 3) := by decide +kernel
theorem dX1_join_8 : decode cX1_join 8 = .ok (.arraylength, 1) := by decide +kernel
theorem dX1_join_9 : decode cX1_join 9 = .ok (.if_icmp .lt 6, 3) := by decide +kernel
theorem dX1_join_12 : decode cX1_join 12 = .ok (.bipush (-3), 2) := by decide +kernel
theorem dX1_join_14 : decode cX1_join 14 = .ok (.ireturn, 1) := by decide +kernel
theorem dX1_join_15 : decode cX1_join 15 = .ok (.aload_n 0, 1) := by decide +kernel
theorem dX1_join_16 : decode cX1_join 16 = .ok (.getfield 11, 3) := by decide +kernel
theorem dX1_join_19 : decode cX1_join 19 = .ok (.aload_n 0, 1) := by decide +kernel
theorem dX1_join_20 : decode cX1_join 20 = .ok (.getfield 27, 3) := by decide +kernel
theorem dX1_join_23 : decode cX1_join 23 = .ok (.new 9, 3) := by decide +kernel
theorem dX1_join_26 : decode cX1_join 26 = .ok (.dup, 1) := by decide +kernel
theorem dX1_join_27 : decode cX1_join 27 = .ok (.iload_n 1, 1) := by decide +kernel
theorem dX1_join_28 : decode cX1_join 28 = .ok (.iload_n 2, 1) := by decide +kernel
theorem dX1_join_29 : decode cX1_join 29 = .ok (.iload_n 3, 1) := by decide +kernel
theorem dX1_join_30 : decode cX1_join 30 = .ok (.invokespecial 31, 3) := by decide +kernel
theorem dX1_join_33 : decode cX1_join 33 = .ok (.aastore, 1) := by decide +kernel
theorem dX1_join_34 : decode cX1_join 34 = .ok (.aload_n 0, 1) := by decide +kernel
theorem dX1_join_35 : decode cX1_join 35 = .ok (.dup, 1) := by decide +kernel
theorem dX1_join_36 : decode cX1_join 36 = .ok (.getfield 27, 3) := by decide +kernel
theorem dX1_join_39 : decode cX1_join 39 = .ok (.iconst 1, 1) := by decide +kernel
theorem dX1_join_40 : decode cX1_join 40 = .ok (.iadd, 1) := by decide +kernel
theorem dX1_join_41 : decode cX1_join 41 = .ok (.putfield 27, 3) := by decide +kernel
theorem dX1_join_44 : decode cX1_join 44 = .ok (.aload_n 0, 1) := by decide +kernel
theorem dX1_join_45 : decode cX1_join 45 = .ok (.getfield 27, 3) := by decide +kernel
theorem dX1_join_48 : decode cX1_join 48 = .ok (.iconst 1, 1) := by decide +kernel
theorem dX1_join_49 : decode cX1_join 49 = .ok (.isub, 1) := by decide +kernel
theorem dX1_join_50 : decode cX1_join 50 = .ok (.ireturn, 1) := by decide +kernel
theorem dX1_leastCostBelow_0 : decode cX1_leastCostBelow 0 = .ok (.aload_n 0, 1) := by decide +kernel
theorem dX1_leastCostBelow_1 : decode cX1_leastCostBelow 1 = .ok (.iload_n 1, 1) := by decide +kernel
theorem dX1_leastCostBelow_2 : decode cX1_leastCostBelow 2 = .ok (.putfield 34, 3) := by decide +kernel
theorem dX1_leastCostBelow_5 : decode cX1_leastCostBelow 5 = .ok (.aload_n 0, 1) := by decide +kernel
theorem dX1_leastCostBelow_6 : decode cX1_leastCostBelow 6 = .ok (.iconst 0, 1) := by decide +kernel
theorem dX1_leastCostBelow_7 : decode cX1_leastCostBelow 7 = .ok (.iconst 0, 1) := by decide +kernel
theorem dX1_leastCostBelow_8 : decode cX1_leastCostBelow 8 = .ok (.invokestatic 37, 3) := by decide +kernel
theorem dX1_leastCostBelow_11 : decode cX1_leastCostBelow 11 = .ok (.aload_n 0, 1) := by decide +kernel
theorem dX1_leastCostBelow_12 : decode cX1_leastCostBelow 12 = .ok (.getfield 34, 3) := by decide +kernel
theorem dX1_leastCostBelow_15 : decode cX1_leastCostBelow 15 = .ok (.iload_n 1, 1) := by decide +kernel
theorem dX1_leastCostBelow_16 : decode cX1_leastCostBelow 16 = .ok (.if_icmp .ge 10, 3) := by decide +kernel
theorem dX1_leastCostBelow_19 : decode cX1_leastCostBelow 19 = .ok (.aload_n 0, 1) := by decide +kernel
theorem dX1_leastCostBelow_20 : decode cX1_leastCostBelow 20 = .ok (.getfield 34, 3) := by decide +kernel
theorem dX1_leastCostBelow_23 : decode cX1_leastCostBelow 23 = .ok (.goto 4, 3) := by decide +kernel
theorem dX1_leastCostBelow_26 : decode cX1_leastCostBelow 26 = .ok (.iconst (-1), 1) := by decide +kernel
theorem dX1_leastCostBelow_27 : decode cX1_leastCostBelow 27 = .ok (.ireturn, 1) := by decide +kernel
theorem dX1_coverFrom_0 : decode cX1_coverFrom 0 = .ok (.iload_n 2, 1) := by decide +kernel
theorem dX1_coverFrom_1 : decode cX1_coverFrom 1 = .ok (.aload_n 0, 1) := by decide +kernel
theorem dX1_coverFrom_2 : decode cX1_coverFrom 2 = .ok (.getfield 34, 3) := by decide +kernel
theorem dX1_coverFrom_5 : decode cX1_coverFrom 5 = .ok (.if_icmp .lt 4, 3) := by decide +kernel
theorem dX1_coverFrom_8 : decode cX1_coverFrom 8 = .ok (.return_, 1) := by decide +kernel
theorem dX1_coverFrom_9 : decode cX1_coverFrom 9 = .ok (.iload_n 1, 1) := by decide +kernel
theorem dX1_coverFrom_10 : decode cX1_coverFrom 10 = .ok (.invokestatic 41, 3) := by decide +kernel
theorem dX1_coverFrom_13 : decode cX1_coverFrom 13 = .ok (.ifCond .ne 9, 3) := by decide +kernel
theorem dX1_coverFrom_16 : decode cX1_coverFrom 16 = .ok (.aload_n 0, 1) := by decide +kernel
theorem dX1_coverFrom_17 : decode cX1_coverFrom 17 = .ok (.iload_n 2, 1) := by decide +kernel
theorem dX1_coverFrom_18 : decode cX1_coverFrom 18 = .ok (.invokevirtual 45, 3) := by decide +kernel
theorem dX1_coverFrom_21 : decode cX1_coverFrom 21 = .ok (.return_, 1) := by decide +kernel
theorem dX1_coverFrom_22 : decode cX1_coverFrom 22 = .ok (.iconst 0, 1) := by decide +kernel
theorem dX1_coverFrom_23 : decode cX1_coverFrom 23 = .ok (.istore_n 3, 1) := by decide +kernel
theorem dX1_coverFrom_24 : decode cX1_coverFrom 24 = .ok (.iload_n 3, 1) := by decide +kernel
theorem dX1_coverFrom_25 : decode cX1_coverFrom 25 = .ok (.iconst 1, 1) := by decide +kernel
theorem dX1_coverFrom_26 : decode cX1_coverFrom 26 = .ok (.aload_n 0, 1) := by decide +kernel
theorem dX1_coverFrom_27 : decode cX1_coverFrom 27 = .ok (.getfield 27, 3) := by decide +kernel
theorem dX1_coverFrom_30 : decode cX1_coverFrom 30 = .ok (.ishl, 1) := by decide +kernel
theorem dX1_coverFrom_31 : decode cX1_coverFrom 31 = .ok (.if_icmp .ge 51, 3) := by decide +kernel
theorem dX1_coverFrom_34 : decode cX1_coverFrom 34 = .ok (.aload_n 0, 1) := by decide +kernel
theorem dX1_coverFrom_35 : decode cX1_coverFrom 35 = .ok (.iload_n 1, 1) := by decide +kernel
theorem dX1_coverFrom_36 : decode cX1_coverFrom 36 = .ok (.iload_n 3, 1) := by decide +kernel
theorem dX1_coverFrom_37 : decode cX1_coverFrom 37 = .ok (.invokevirtual 49, 3) := by decide +kernel
theorem dX1_coverFrom_40 : decode cX1_coverFrom 40 = .ok (.ifCond .eq 36, 3) := by decide +kernel
theorem dX1_coverFrom_43 : decode cX1_coverFrom 43 = .ok (.aload_n 0, 1) := by decide +kernel
theorem dX1_coverFrom_44 : decode cX1_coverFrom 44 = .ok (.getfield 17, 3) := by decide +kernel
theorem dX1_coverFrom_47 : decode cX1_coverFrom 47 = .ok (.iload_n 1, 1) := by decide +kernel
theorem dX1_coverFrom_48 : decode cX1_coverFrom 48 = .ok (.iload_n 3, 1) := by decide +kernel
theorem dX1_coverFrom_49 : decode cX1_coverFrom 49 = .ok (.iastore, 1) := by decide +kernel
theorem dX1_coverFrom_50 : decode cX1_coverFrom 50 = .ok (.aload_n 0, 1) := by decide +kernel
theorem dX1_coverFrom_51 : decode cX1_coverFrom 51 = .ok (.iload_n 3, 1) := by decide +kernel
theorem dX1_coverFrom_52 : decode cX1_coverFrom 52 = .ok (.iconst 1, 1) := by decide +kernel
theorem dX1_coverFrom_53 : decode cX1_coverFrom 53 = .ok (.invokevirtual 53, 3) := by decide +kernel
theorem dX1_coverFrom_56 : decode cX1_coverFrom 56 = .ok (.aload_n 0, 1) := by decide +kernel
theorem dX1_coverFrom_57 : decode cX1_coverFrom 57 = .ok (.iload_n 1, 1) := by decide +kernel
theorem dX1_coverFrom_58 : decode cX1_coverFrom 58 = .ok (.iconst 1, 1) := by decide +kernel
theorem dX1_coverFrom_59 : decode cX1_coverFrom 59 = .ok (.iadd, 1) := by decide +kernel
theorem dX1_coverFrom_60 : decode cX1_coverFrom 60 = .ok (.iload_n 2, 1) := by decide +kernel
theorem dX1_coverFrom_61 : decode cX1_coverFrom 61 = .ok (.aload_n 0, 1) := by decide +kernel
theorem dX1_coverFrom_62 : decode cX1_coverFrom 62 = .ok (.iload_n 3, 1) := by decide +kernel
theorem dX1_coverFrom_63 : decode cX1_coverFrom 63 = .ok (.invokevirtual 57, 3) := by decide +kernel
theorem dX1_coverFrom_66 : decode cX1_coverFrom 66 = .ok (.iadd, 1) := by decide +kernel
theorem dX1_coverFrom_67 : decode cX1_coverFrom 67 = .ok (.invokestatic 37, 3) := by decide +kernel
theorem dX1_coverFrom_70 : decode cX1_coverFrom 70 = .ok (.aload_n 0, 1) := by decide +kernel
theorem dX1_coverFrom_71 : decode cX1_coverFrom 71 = .ok (.iload_n 3, 1) := by decide +kernel
theorem dX1_coverFrom_72 : decode cX1_coverFrom 72 = .ok (.iconst (-1), 1) := by decide +kernel
theorem dX1_coverFrom_73 : decode cX1_coverFrom 73 = .ok (.invokevirtual 53, 3) := by decide +kernel
theorem dX1_coverFrom_76 : decode cX1_coverFrom 76 = .ok (.iinc 3 1, 3) := by decide +kernel
theorem dX1_coverFrom_79 : decode cX1_coverFrom 79 = .ok (.goto (-55), 3) := by decide +kernel
theorem dX1_coverFrom_82 : decode cX1_coverFrom 82 = .ok (.return_, 1) := by decide +kernel
theorem dX1_keepSets_0 : decode cX1_keepSets 0 = .ok (.aload_n 0, 1) := by decide +kernel
theorem dX1_keepSets_1 : decode cX1_keepSets 1 = .ok (.iload_n 1, 1) := by decide +kernel
theorem dX1_keepSets_2 : decode cX1_keepSets 2 = .ok (.putfield 34, 3) := by decide +kernel
theorem dX1_keepSets_5 : decode cX1_keepSets 5 = .ok (.iconst 0, 1) := by decide +kernel
theorem dX1_keepSets_6 : decode cX1_keepSets 6 = .ok (.istore_n 2, 1) := by decide +kernel
theorem dX1_keepSets_7 : decode cX1_keepSets 7 = .ok (.iload_n 2, 1) := by decide +kernel
theorem dX1_keepSets_8 : decode cX1_keepSets 8 = .ok (.iconst 5, 1) := by decide +kernel
theorem dX1_keepSets_9 : decode cX1_keepSets 9 = .ok (.if_icmp .ge 21, 3) := by decide +kernel
theorem dX1_keepSets_12 : decode cX1_keepSets 12 = .ok (.aload_n 0, 1) := by decide +kernel
theorem dX1_keepSets_13 : decode cX1_keepSets 13 = .ok (.getfield 24, 3) := by decide +kernel
theorem dX1_keepSets_16 : decode cX1_keepSets 16 = .ok (.iload_n 2, 1) := by decide +kernel
theorem dX1_keepSets_17 : decode cX1_keepSets 17 = .ok (.aload_n 0, 1) := by decide +kernel
theorem dX1_keepSets_18 : decode cX1_keepSets 18 = .ok (.getfield 17, 3) := by decide +kernel
theorem dX1_keepSets_21 : decode cX1_keepSets 21 = .ok (.iload_n 2, 1) := by decide +kernel
theorem dX1_keepSets_22 : decode cX1_keepSets 22 = .ok (.iaload, 1) := by decide +kernel
theorem dX1_keepSets_23 : decode cX1_keepSets 23 = .ok (.iastore, 1) := by decide +kernel
theorem dX1_keepSets_24 : decode cX1_keepSets 24 = .ok (.iinc 2 1, 3) := by decide +kernel
theorem dX1_keepSets_27 : decode cX1_keepSets 27 = .ok (.goto (-20), 3) := by decide +kernel
theorem dX1_keepSets_30 : decode cX1_keepSets 30 = .ok (.return_, 1) := by decide +kernel
theorem dX1_canGive_0 : decode cX1_canGive 0 = .ok (.iload_n 2, 1) := by decide +kernel
theorem dX1_canGive_1 : decode cX1_canGive 1 = .ok (.invokestatic 61, 3) := by decide +kernel
theorem dX1_canGive_4 : decode cX1_canGive 4 = .ok (.aload_n 0, 1) := by decide +kernel
theorem dX1_canGive_5 : decode cX1_canGive 5 = .ok (.getfield 21, 3) := by decide +kernel
theorem dX1_canGive_8 : decode cX1_canGive 8 = .ok (.iload_n 1, 1) := by decide +kernel
theorem dX1_canGive_9 : decode cX1_canGive 9 = .ok (.iaload, 1) := by decide +kernel
theorem dX1_canGive_10 : decode cX1_canGive 10 = .ok (.if_icmp .eq 5, 3) := by decide +kernel
theorem dX1_canGive_13 : decode cX1_canGive 13 = .ok (.iconst 0, 1) := by decide +kernel
theorem dX1_canGive_14 : decode cX1_canGive 14 = .ok (.ireturn, 1) := by decide +kernel
theorem dX1_canGive_15 : decode cX1_canGive 15 = .ok (.iconst 0, 1) := by decide +kernel
theorem dX1_canGive_16 : decode cX1_canGive 16 = .ok (.istore_n 3, 1) := by decide +kernel
theorem dX1_canGive_17 : decode cX1_canGive 17 = .ok (.iload_n 3, 1) := by decide +kernel
theorem dX1_canGive_18 : decode cX1_canGive 18 = .ok (.aload_n 0, 1) := by decide +kernel
theorem dX1_canGive_19 : decode cX1_canGive 19 = .ok (.getfield 11, 3) := by decide +kernel
theorem dX1_canGive_22 : decode cX1_canGive 22 = .ok (.arraylength, 1) := by decide +kernel
theorem dX1_canGive_23 : decode cX1_canGive 23 = .ok (.if_icmp .ge 41, 3) := by decide +kernel
theorem dX1_canGive_26 : decode cX1_canGive 26 = .ok (.aload_n 0, 1) := by decide +kernel
theorem dX1_canGive_27 : decode cX1_canGive 27 = .ok (.getfield 11, 3) := by decide +kernel
theorem dX1_canGive_30 : decode cX1_canGive 30 = .ok (.iload_n 3, 1) := by decide +kernel
theorem dX1_canGive_31 : decode cX1_canGive 31 = .ok (.aaload, 1) := by decide +kernel
theorem dX1_canGive_32 : decode cX1_canGive 32 = .ok (.astore 4, 2) := by decide +kernel
theorem dX1_canGive_34 : decode cX1_canGive 34 = .ok (.iload_n 2, 1) := by decide +kernel
theorem dX1_canGive_35 : decode cX1_canGive 35 = .ok (.iload_n 3, 1) := by decide +kernel
theorem dX1_canGive_36 : decode cX1_canGive 36 = .ok (.invokestatic 66, 3) := by decide +kernel
theorem dX1_canGive_39 : decode cX1_canGive 39 = .ok (.ifCond .eq 19, 3) := by decide +kernel
theorem dX1_canGive_42 : decode cX1_canGive 42 = .ok (.aload 4, 2) := by decide +kernel
theorem dX1_canGive_44 : decode cX1_canGive 44 = .ok (.ifnull 12, 3) := by decide +kernel
theorem dX1_canGive_47 : decode cX1_canGive 47 = .ok (.aload 4, 2) := by decide +kernel
theorem dX1_canGive_49 : decode cX1_canGive 49 = .ok (.iload_n 1, 1) := by decide +kernel
theorem dX1_canGive_50 : decode cX1_canGive 50 = .ok (.invokevirtual 69, 3) := by decide +kernel
theorem dX1_canGive_53 : decode cX1_canGive 53 = .ok (.ifCond .ne 5, 3) := by decide +kernel
theorem dX1_canGive_56 : decode cX1_canGive 56 = .ok (.iconst 0, 1) := by decide +kernel
theorem dX1_canGive_57 : decode cX1_canGive 57 = .ok (.ireturn, 1) := by decide +kernel
theorem dX1_canGive_58 : decode cX1_canGive 58 = .ok (.iinc 3 1, 3) := by decide +kernel
theorem dX1_canGive_61 : decode cX1_canGive 61 = .ok (.goto (-44), 3) := by decide +kernel
theorem dX1_canGive_64 : decode cX1_canGive 64 = .ok (.iconst 1, 1) := by decide +kernel
theorem dX1_canGive_65 : decode cX1_canGive 65 = .ok (.ireturn, 1) := by decide +kernel
theorem dX1_give_0 : decode cX1_give 0 = .ok (.iconst 0, 1) := by decide +kernel
theorem dX1_give_1 : decode cX1_give 1 = .ok (.istore_n 3, 1) := by decide +kernel
theorem dX1_give_2 : decode cX1_give 2 = .ok (.iload_n 3, 1) := by decide +kernel
theorem dX1_give_3 : decode cX1_give 3 = .ok (.aload_n 0, 1) := by decide +kernel
theorem dX1_give_4 : decode cX1_give 4 = .ok (.getfield 11, 3) := by decide +kernel
theorem dX1_give_7 : decode cX1_give 7 = .ok (.arraylength, 1) := by decide +kernel
theorem dX1_give_8 : decode cX1_give 8 = .ok (.if_icmp .ge 41, 3) := by decide +kernel
theorem dX1_give_11 : decode cX1_give 11 = .ok (.aload_n 0, 1) := by decide +kernel
theorem dX1_give_12 : decode cX1_give 12 = .ok (.getfield 11, 3) := by decide +kernel
theorem dX1_give_15 : decode cX1_give 15 = .ok (.iload_n 3, 1) := by decide +kernel
theorem dX1_give_16 : decode cX1_give 16 = .ok (.aaload, 1) := by decide +kernel
theorem dX1_give_17 : decode cX1_give 17 = .ok (.astore 4, 2) := by decide +kernel
theorem dX1_give_19 : decode cX1_give 19 = .ok (.aload 4, 2) := by decide +kernel
theorem dX1_give_21 : decode cX1_give 21 = .ok (.ifnull 22, 3) := by decide +kernel
theorem dX1_give_24 : decode cX1_give 24 = .ok (.iload_n 1, 1) := by decide +kernel
theorem dX1_give_25 : decode cX1_give 25 = .ok (.iload_n 3, 1) := by decide +kernel
theorem dX1_give_26 : decode cX1_give 26 = .ok (.invokestatic 66, 3) := by decide +kernel
theorem dX1_give_29 : decode cX1_give 29 = .ok (.ifCond .eq 14, 3) := by decide +kernel
theorem dX1_give_32 : decode cX1_give 32 = .ok (.aload 4, 2) := by decide +kernel
theorem dX1_give_34 : decode cX1_give 34 = .ok (.dup, 1) := by decide +kernel
theorem dX1_give_35 : decode cX1_give 35 = .ok (.getfield 72, 3) := by decide +kernel
theorem dX1_give_38 : decode cX1_give 38 = .ok (.iload_n 2, 1) := by decide +kernel
theorem dX1_give_39 : decode cX1_give 39 = .ok (.iadd, 1) := by decide +kernel
theorem dX1_give_40 : decode cX1_give 40 = .ok (.putfield 72, 3) := by decide +kernel
theorem dX1_give_43 : decode cX1_give 43 = .ok (.iinc 3 1, 3) := by decide +kernel
theorem dX1_give_46 : decode cX1_give 46 = .ok (.goto (-44), 3) := by decide +kernel
theorem dX1_give_49 : decode cX1_give 49 = .ok (.return_, 1) := by decide +kernel
theorem dX1_wagesOf_0 : decode cX1_wagesOf 0 = .ok (.iconst 0, 1) := by decide +kernel
theorem dX1_wagesOf_1 : decode cX1_wagesOf 1 = .ok (.istore_n 2, 1) := by decide +kernel
theorem dX1_wagesOf_2 : decode cX1_wagesOf 2 = .ok (.iconst 0, 1) := by decide +kernel
theorem dX1_wagesOf_3 : decode cX1_wagesOf 3 = .ok (.istore_n 3, 1) := by decide +kernel
theorem dX1_wagesOf_4 : decode cX1_wagesOf 4 = .ok (.iload_n 3, 1) := by decide +kernel
theorem dX1_wagesOf_5 : decode cX1_wagesOf 5 = .ok (.aload_n 0, 1) := by decide +kernel
theorem dX1_wagesOf_6 : decode cX1_wagesOf 6 = .ok (.getfield 11, 3) := by decide +kernel
theorem dX1_wagesOf_9 : decode cX1_wagesOf 9 = .ok (.arraylength, 1) := by decide +kernel
theorem dX1_wagesOf_10 : decode cX1_wagesOf 10 = .ok (.if_icmp .ge 38, 3) := by decide +kernel
theorem dX1_wagesOf_13 : decode cX1_wagesOf 13 = .ok (.aload_n 0, 1) := by decide +kernel
theorem dX1_wagesOf_14 : decode cX1_wagesOf 14 = .ok (.getfield 11, 3) := by decide +kernel
theorem dX1_wagesOf_17 : decode cX1_wagesOf 17 = .ok (.iload_n 3, 1) := by decide +kernel
theorem dX1_wagesOf_18 : decode cX1_wagesOf 18 = .ok (.aaload, 1) := by decide +kernel
theorem dX1_wagesOf_19 : decode cX1_wagesOf 19 = .ok (.astore 4, 2) := by decide +kernel
theorem dX1_wagesOf_21 : decode cX1_wagesOf 21 = .ok (.aload 4, 2) := by decide +kernel
theorem dX1_wagesOf_23 : decode cX1_wagesOf 23 = .ok (.ifnull 19, 3) := by decide +kernel
theorem dX1_wagesOf_26 : decode cX1_wagesOf 26 = .ok (.iload_n 1, 1) := by decide +kernel
theorem dX1_wagesOf_27 : decode cX1_wagesOf 27 = .ok (.iload_n 3, 1) := by decide +kernel
theorem dX1_wagesOf_28 : decode cX1_wagesOf 28 = .ok (.invokestatic 66, 3) := by decide +kernel
theorem dX1_wagesOf_31 : decode cX1_wagesOf 31 = .ok (.ifCond .eq 11, 3) := by decide +kernel
theorem dX1_wagesOf_34 : decode cX1_wagesOf 34 = .ok (.iload_n 2, 1) := by decide +kernel
theorem dX1_wagesOf_35 : decode cX1_wagesOf 35 = .ok (.aload 4, 2) := by decide +kernel
theorem dX1_wagesOf_37 : decode cX1_wagesOf 37 = .ok (.getfield 75, 3) := by decide +kernel
theorem dX1_wagesOf_40 : decode cX1_wagesOf 40 = .ok (.iadd, 1) := by decide +kernel
theorem dX1_wagesOf_41 : decode cX1_wagesOf 41 = .ok (.istore_n 2, 1) := by decide +kernel
theorem dX1_wagesOf_42 : decode cX1_wagesOf 42 = .ok (.iinc 3 1, 3) := by decide +kernel
theorem dX1_wagesOf_45 : decode cX1_wagesOf 45 = .ok (.goto (-41), 3) := by decide +kernel
theorem dX1_wagesOf_48 : decode cX1_wagesOf 48 = .ok (.iload_n 2, 1) := by decide +kernel
theorem dX1_wagesOf_49 : decode cX1_wagesOf 49 = .ok (.ireturn, 1) := by decide +kernel
theorem dX1_isIn_0 : decode cX1_isIn 0 = .ok (.iload_n 0, 1) := by decide +kernel
theorem dX1_isIn_1 : decode cX1_isIn 1 = .ok (.iload_n 1, 1) := by decide +kernel
theorem dX1_isIn_2 : decode cX1_isIn 2 = .ok (.iushr, 1) := by decide +kernel
theorem dX1_isIn_3 : decode cX1_isIn 3 = .ok (.iconst 1, 1) := by decide +kernel
theorem dX1_isIn_4 : decode cX1_isIn 4 = .ok (.iand, 1) := by decide +kernel
theorem dX1_isIn_5 : decode cX1_isIn 5 = .ok (.ifCond .eq 7, 3) := by decide +kernel
theorem dX1_isIn_8 : decode cX1_isIn 8 = .ok (.iconst 1, 1) := by decide +kernel
theorem dX1_isIn_9 : decode cX1_isIn 9 = .ok (.goto 4, 3) := by decide +kernel
theorem dX1_isIn_12 : decode cX1_isIn 12 = .ok (.iconst 0, 1) := by decide +kernel
theorem dX1_isIn_13 : decode cX1_isIn 13 = .ok (.ireturn, 1) := by decide +kernel
theorem dX2_init_0 : decode cX2_init 0 = .ok (.aload_n 0, 1) := by decide +kernel
theorem dX2_init_1 : decode cX2_init 1 = .ok (.invokespecial 1, 3) := by decide +kernel
theorem dX2_init_4 : decode cX2_init 4 = .ok (.return_, 1) := by decide +kernel
theorem dX2_hasHoliday_0 : decode cX2_hasHoliday 0 = .ok (.aload_n 0, 1) := by decide +kernel
theorem dX2_hasHoliday_1 : decode cX2_hasHoliday 1 = .ok (.getfield 7, 3) := by decide +kernel
theorem dX2_hasHoliday_4 : decode cX2_hasHoliday 4 = .ok (.iload_n 1, 1) := by decide +kernel
theorem dX2_hasHoliday_5 : decode cX2_hasHoliday 5 = .ok (.lushr, 1) := by decide +kernel
theorem dX2_hasHoliday_6 : decode cX2_hasHoliday 6 = .ok (.lconst 1, 1) := by decide +kernel
theorem dX2_hasHoliday_7 : decode cX2_hasHoliday 7 = .ok (.land, 1) := by decide +kernel
theorem dX2_hasHoliday_8 : decode cX2_hasHoliday 8 = .ok (.lconst 0, 1) := by decide +kernel
theorem dX2_hasHoliday_9 : decode cX2_hasHoliday 9 = .ok (.lcmp, 1) := by decide +kernel
theorem dX2_hasHoliday_10 : decode cX2_hasHoliday 10 = .ok (.ifCond .eq 7, 3) := by decide +kernel
theorem dX2_hasHoliday_13 : decode cX2_hasHoliday 13 = .ok (.iconst 1, 1) := by decide +kernel
theorem dX2_hasHoliday_14 : decode cX2_hasHoliday 14 = .ok (.goto 4, 3) := by decide +kernel
theorem dX2_hasHoliday_17 : decode cX2_hasHoliday 17 = .ok (.iconst 0, 1) := by decide +kernel
theorem dX2_hasHoliday_18 : decode cX2_hasHoliday 18 = .ok (.ireturn, 1) := by decide +kernel
theorem dX3_init_0 : decode cX3_init 0 = .ok (.aload_n 0, 1) := by decide +kernel
theorem dX3_init_1 : decode cX3_init 1 = .ok (.invokespecial 3, 3) := by decide +kernel
theorem dX3_init_4 : decode cX3_init 4 = .ok (.aload_n 0, 1) := by decide +kernel
theorem dX3_init_5 : decode cX3_init 5 = .ok (.iconst 3, 1) := by decide +kernel
theorem dX3_init_6 : decode cX3_init 6 = .ok (.newarray .int, 2) := by decide +kernel
theorem dX3_init_8 : decode cX3_init 8 = .ok (.putfield 9, 3) := by decide +kernel
theorem dX3_init_11 : decode cX3_init 11 = .ok (.return_, 1) := by decide +kernel
theorem dX3_clear_0 : decode cX3_clear 0 = .ok (.iconst 0, 1) := by decide +kernel
theorem dX3_clear_1 : decode cX3_clear 1 = .ok (.istore_n 1, 1) := by decide +kernel
theorem dX3_clear_2 : decode cX3_clear 2 = .ok (.iload_n 1, 1) := by decide +kernel
theorem dX3_clear_3 : decode cX3_clear 3 = .ok (.aload_n 0, 1) := by decide +kernel
theorem dX3_clear_4 : decode cX3_clear 4 = .ok (.getfield 9, 3) := by decide +kernel
theorem dX3_clear_7 : decode cX3_clear 7 = .ok (.arraylength, 1) := by decide +kernel
theorem dX3_clear_8 : decode cX3_clear 8 = .ok (.if_icmp .ge 16, 3) := by decide +kernel
theorem dX3_clear_11 : decode cX3_clear 11 = .ok (.aload_n 0, 1) := by decide +kernel
theorem dX3_clear_12 : decode cX3_clear 12 = .ok (.getfield 9, 3) := by decide +kernel
theorem dX3_clear_15 : decode cX3_clear 15 = .ok (.iload_n 1, 1) := by decide +kernel
theorem dX3_clear_16 : decode cX3_clear 16 = .ok (.iconst 0, 1) := by decide +kernel
theorem dX3_clear_17 : decode cX3_clear 17 = .ok (.iastore, 1) := by decide +kernel
theorem dX3_clear_18 : decode cX3_clear 18 = .ok (.iinc 1 1, 3) := by decide +kernel
theorem dX3_clear_21 : decode cX3_clear 21 = .ok (.goto (-19), 3) := by decide +kernel
theorem dX3_clear_24 : decode cX3_clear 24 = .ok (.return_, 1) := by decide +kernel
theorem dX3_add_0 : decode cX3_add 0 = .ok (.iload_n 1, 1) := by decide +kernel
theorem dX3_add_1 : decode cX3_add 1 = .ok (.invokestatic 15, 3) := by decide +kernel
theorem dX3_add_4 : decode cX3_add 4 = .ok (.ifCond .eq 13, 3) := by decide +kernel
theorem dX3_add_7 : decode cX3_add 7 = .ok (.aload_n 0, 1) := by decide +kernel
theorem dX3_add_8 : decode cX3_add 8 = .ok (.getfield 9, 3) := by decide +kernel
theorem dX3_add_11 : decode cX3_add 11 = .ok (.iload_n 1, 1) := by decide +kernel
theorem dX3_add_12 : decode cX3_add 12 = .ok (.dup2, 1) := by decide +kernel
theorem dX3_add_13 : decode cX3_add 13 = .ok (.iaload, 1) := by decide +kernel
theorem dX3_add_14 : decode cX3_add 14 = .ok (.iconst 1, 1) := by decide +kernel
theorem dX3_add_15 : decode cX3_add 15 = .ok (.iadd, 1) := by decide +kernel
theorem dX3_add_16 : decode cX3_add 16 = .ok (.iastore, 1) := by decide +kernel
theorem dX3_add_17 : decode cX3_add 17 = .ok (.return_, 1) := by decide +kernel
theorem dX3_total_0 : decode cX3_total 0 = .ok (.aload_n 0, 1) := by decide +kernel
theorem dX3_total_1 : decode cX3_total 1 = .ok (.getfield 9, 3) := by decide +kernel
theorem dX3_total_4 : decode cX3_total 4 = .ok (.iconst 0, 1) := by decide +kernel
theorem dX3_total_5 : decode cX3_total 5 = .ok (.iaload, 1) := by decide +kernel
theorem dX3_total_6 : decode cX3_total 6 = .ok (.aload_n 0, 1) := by decide +kernel
theorem dX3_total_7 : decode cX3_total 7 = .ok (.getfield 9, 3) := by decide +kernel
theorem dX3_total_10 : decode cX3_total 10 = .ok (.iconst 1, 1) := by decide +kernel
theorem dX3_total_11 : decode cX3_total 11 = .ok (.iaload, 1) := by decide +kernel
theorem dX3_total_12 : decode cX3_total 12 = .ok (.iadd, 1) := by decide +kernel
theorem dX3_total_13 : decode cX3_total 13 = .ok (.aload_n 0, 1) := by decide +kernel
theorem dX3_total_14 : decode cX3_total 14 = .ok (.getfield 9, 3) := by decide +kernel
theorem dX3_total_17 : decode cX3_total 17 = .ok (.iconst 2, 1) := by decide +kernel
theorem dX3_total_18 : decode cX3_total 18 = .ok (.iaload, 1) := by decide +kernel
theorem dX3_total_19 : decode cX3_total 19 = .ok (.iadd, 1) := by decide +kernel
theorem dX3_total_20 : decode cX3_total 20 = .ok (.ireturn, 1) := by decide +kernel
theorem dX3_needAt_0 : decode cX3_needAt 0 = .ok (.iload_n 1, 1) := by decide +kernel
theorem dX3_needAt_1 : decode cX3_needAt 1 = .ok (.iload_n 2, 1) := by decide +kernel
theorem dX3_needAt_2 : decode cX3_needAt 2 = .ok (.imul, 1) := by decide +kernel
theorem dX3_needAt_3 : decode cX3_needAt 3 = .ok (.iload_n 3, 1) := by decide +kernel
theorem dX3_needAt_4 : decode cX3_needAt 4 = .ok (.imul, 1) := by decide +kernel
theorem dX3_needAt_5 : decode cX3_needAt 5 = .ok (.istore 4, 2) := by decide +kernel
theorem dX3_needAt_7 : decode cX3_needAt 7 = .ok (.iload 4, 2) := by decide +kernel
theorem dX3_needAt_9 : decode cX3_needAt 9 = .ok (.ifCond .gt 5, 3) := by decide +kernel
theorem dX3_needAt_12 : decode cX3_needAt 12 = .ok (.iconst 0, 1) := by decide +kernel
theorem dX3_needAt_13 : decode cX3_needAt 13 = .ok (.ireturn, 1) := by decide +kernel
theorem dX3_needAt_14 : decode cX3_needAt 14 = .ok (.aload_n 0, 1) := by decide +kernel
theorem dX3_needAt_15 : decode cX3_needAt 15 = .ok (.getfield 9, 3) := by decide +kernel
theorem dX3_needAt_18 : decode cX3_needAt 18 = .ok (.iconst 0, 1) := by decide +kernel
theorem dX3_needAt_19 : decode cX3_needAt 19 = .ok (.iaload, 1) := by decide +kernel
theorem dX3_needAt_20 : decode cX3_needAt 20 = .ok (.iload_n 2, 1) := by decide +kernel
theorem dX3_needAt_21 : decode cX3_needAt 21 = .ok (.imul, 1) := by decide +kernel
theorem dX3_needAt_22 : decode cX3_needAt 22 = .ok (.iload_n 3, 1) := by decide +kernel
theorem dX3_needAt_23 : decode cX3_needAt 23 = .ok (.imul, 1) := by decide +kernel
theorem dX3_needAt_24 : decode cX3_needAt 24 = .ok (.aload_n 0, 1) := by decide +kernel
theorem dX3_needAt_25 : decode cX3_needAt 25 = .ok (.getfield 9, 3) := by decide +kernel
theorem dX3_needAt_28 : decode cX3_needAt 28 = .ok (.iconst 1, 1) := by decide +kernel
theorem dX3_needAt_29 : decode cX3_needAt 29 = .ok (.iaload, 1) := by decide +kernel
theorem dX3_needAt_30 : decode cX3_needAt 30 = .ok (.iload_n 1, 1) := by decide +kernel
theorem dX3_needAt_31 : decode cX3_needAt 31 = .ok (.imul, 1) := by decide +kernel
theorem dX3_needAt_32 : decode cX3_needAt 32 = .ok (.iload_n 3, 1) := by decide +kernel
theorem dX3_needAt_33 : decode cX3_needAt 33 = .ok (.imul, 1) := by decide +kernel
theorem dX3_needAt_34 : decode cX3_needAt 34 = .ok (.iadd, 1) := by decide +kernel
theorem dX3_needAt_35 : decode cX3_needAt 35 = .ok (.aload_n 0, 1) := by decide +kernel
theorem dX3_needAt_36 : decode cX3_needAt 36 = .ok (.getfield 9, 3) := by decide +kernel
theorem dX3_needAt_39 : decode cX3_needAt 39 = .ok (.iconst 2, 1) := by decide +kernel
theorem dX3_needAt_40 : decode cX3_needAt 40 = .ok (.iaload, 1) := by decide +kernel
theorem dX3_needAt_41 : decode cX3_needAt 41 = .ok (.iload_n 1, 1) := by decide +kernel
theorem dX3_needAt_42 : decode cX3_needAt 42 = .ok (.imul, 1) := by decide +kernel
theorem dX3_needAt_43 : decode cX3_needAt 43 = .ok (.iload_n 2, 1) := by decide +kernel
theorem dX3_needAt_44 : decode cX3_needAt 44 = .ok (.imul, 1) := by decide +kernel
theorem dX3_needAt_45 : decode cX3_needAt 45 = .ok (.iadd, 1) := by decide +kernel
theorem dX3_needAt_46 : decode cX3_needAt 46 = .ok (.istore 5, 2) := by decide +kernel
theorem dX3_needAt_48 : decode cX3_needAt 48 = .ok (.iload 5, 2) := by decide +kernel
theorem dX3_needAt_50 : decode cX3_needAt 50 = .ok (.iload 4, 2) := by decide +kernel
theorem dX3_needAt_52 : decode cX3_needAt 52 = .ok (.iadd, 1) := by decide +kernel
theorem dX3_needAt_53 : decode cX3_needAt 53 = .ok (.iconst 1, 1) := by decide +kernel
theorem dX3_needAt_54 : decode cX3_needAt 54 = .ok (.isub, 1) := by decide +kernel
theorem dX3_needAt_55 : decode cX3_needAt 55 = .ok (.iload 4, 2) := by decide +kernel
theorem dX3_needAt_57 : decode cX3_needAt 57 = .ok (.idiv, 1) := by decide +kernel
theorem dX3_needAt_58 : decode cX3_needAt 58 = .ok (.ireturn, 1) := by decide +kernel
theorem dX4_init_0 : decode cX4_init 0 = .ok (.aload_n 0, 1) := by decide +kernel
theorem dX4_init_1 : decode cX4_init 1 = .ok (.invokespecial 3, 3) := by decide +kernel
theorem dX4_init_4 : decode cX4_init 4 = .ok (.aload_n 0, 1) := by decide +kernel
theorem dX4_init_5 : decode cX4_init 5 = .ok (.bipush 60, 2) := by decide +kernel
theorem dX4_init_7 : decode cX4_init 7 = .ok (.newarray .char, 2) := by decide +kernel
theorem dX4_init_9 : decode cX4_init 9 = .ok (.putfield 9, 3) := by decide +kernel
theorem dX4_init_12 : decode cX4_init 12 = .ok (.return_, 1) := by decide +kernel
theorem dX5_init_0 : decode cX5_init 0 = .ok (.aload_n 0, 1) := by decide +kernel
theorem dX5_init_1 : decode cX5_init 1 = .ok (.invokespecial 1, 3) := by decide +kernel
theorem dX5_init_4 : decode cX5_init 4 = .ok (.aload_n 0, 1) := by decide +kernel
theorem dX5_init_5 : decode cX5_init 5 = .ok (.iload_n 1, 1) := by decide +kernel
theorem dX5_init_6 : decode cX5_init 6 = .ok (.putfield 7, 3) := by decide +kernel
theorem dX5_init_9 : decode cX5_init 9 = .ok (.aload_n 0, 1) := by decide +kernel
theorem dX5_init_10 : decode cX5_init 10 = .ok (.iload_n 2, 1) := by decide +kernel
theorem dX5_init_11 : decode cX5_init 11 = .ok (.putfield 13, 3) := by decide +kernel
theorem dX5_init_14 : decode cX5_init 14 = .ok (.aload_n 0, 1) := by decide +kernel
theorem dX5_init_15 : decode cX5_init 15 = .ok (.iload_n 3, 1) := by decide +kernel
theorem dX5_init_16 : decode cX5_init 16 = .ok (.putfield 16, 3) := by decide +kernel
theorem dX5_init_19 : decode cX5_init 19 = .ok (.return_, 1) := by decide +kernel
theorem dX5_canTake_0 : decode cX5_canTake 0 = .ok (.aload_n 0, 1) := by decide +kernel
theorem dX5_canTake_1 : decode cX5_canTake 1 = .ok (.getfield 7, 3) := by decide +kernel
theorem dX5_canTake_4 : decode cX5_canTake 4 = .ok (.iload_n 1, 1) := by decide +kernel
theorem dX5_canTake_5 : decode cX5_canTake 5 = .ok (.iushr, 1) := by decide +kernel
theorem dX5_canTake_6 : decode cX5_canTake 6 = .ok (.iconst 1, 1) := by decide +kernel
theorem dX5_canTake_7 : decode cX5_canTake 7 = .ok (.iand, 1) := by decide +kernel
theorem dX5_canTake_8 : decode cX5_canTake 8 = .ok (.ifCond .eq 18, 3) := by decide +kernel
theorem dX5_canTake_11 : decode cX5_canTake 11 = .ok (.aload_n 0, 1) := by decide +kernel
theorem dX5_canTake_12 : decode cX5_canTake 12 = .ok (.getfield 19, 3) := by decide +kernel
theorem dX5_canTake_15 : decode cX5_canTake 15 = .ok (.aload_n 0, 1) := by decide +kernel
theorem dX5_canTake_16 : decode cX5_canTake 16 = .ok (.getfield 13, 3) := by decide +kernel
theorem dX5_canTake_19 : decode cX5_canTake 19 = .ok (.if_icmp .ge 7, 3) := by decide +kernel
theorem dX5_canTake_22 : decode cX5_canTake 22 = .ok (.iconst 1, 1) := by decide +kernel
theorem dX5_canTake_23 : decode cX5_canTake 23 = .ok (.goto 4, 3) := by decide +kernel
theorem dX5_canTake_26 : decode cX5_canTake 26 = .ok (.iconst 0, 1) := by decide +kernel
theorem dX5_canTake_27 : decode cX5_canTake 27 = .ok (.ireturn, 1) := by decide +kernel
theorem dX6_init_0 : decode cX6_init 0 = .ok (.aload_n 0, 1) := by decide +kernel
theorem dX6_init_1 : decode cX6_init 1 = .ok (.invokespecial 3, 3) := by decide +kernel
theorem dX6_init_4 : decode cX6_init 4 = .ok (.aload_n 0, 1) := by decide +kernel
theorem dX6_init_5 : decode cX6_init 5 = .ok (.bipush 24, 2) := by decide +kernel
theorem dX6_init_7 : decode cX6_init 7 = .ok (.anewarray 9, 3) := by decide +kernel
theorem dX6_init_10 : decode cX6_init 10 = .ok (.putfield 11, 3) := by decide +kernel
theorem dX6_init_13 : decode cX6_init 13 = .ok (.aload_n 0, 1) := by decide +kernel
theorem dX6_init_14 : decode cX6_init 14 = .ok (.bipush 8, 2) := by decide +kernel
theorem dX6_init_16 : decode cX6_init 16 = .ok (.anewarray 15, 3) := by decide +kernel
theorem dX6_init_19 : decode cX6_init 19 = .ok (.putfield 17, 3) := by decide +kernel
theorem dX6_init_22 : decode cX6_init 22 = .ok (.aload_n 0, 1) := by decide +kernel
theorem dX6_init_23 : decode cX6_init 23 = .ok (.iconst 3, 1) := by decide +kernel
theorem dX6_init_24 : decode cX6_init 24 = .ok (.newarray .int, 2) := by decide +kernel
theorem dX6_init_26 : decode cX6_init 26 = .ok (.dup, 1) := by decide +kernel
theorem dX6_init_27 : decode cX6_init 27 = .ok (.iconst 0, 1) := by decide +kernel
theorem dX6_init_28 : decode cX6_init 28 = .ok (.iconst 4, 1) := by decide +kernel
theorem dX6_init_29 : decode cX6_init 29 = .ok (.iastore, 1) := by decide +kernel
theorem dX6_init_30 : decode cX6_init 30 = .ok (.dup, 1) := by decide +kernel
theorem dX6_init_31 : decode cX6_init 31 = .ok (.iconst 1, 1) := by decide +kernel
theorem dX6_init_32 : decode cX6_init 32 = .ok (.bipush 6, 2) := by decide +kernel
theorem dX6_init_34 : decode cX6_init 34 = .ok (.iastore, 1) := by decide +kernel
theorem dX6_init_35 : decode cX6_init 35 = .ok (.dup, 1) := by decide +kernel
theorem dX6_init_36 : decode cX6_init 36 = .ok (.iconst 2, 1) := by decide +kernel
theorem dX6_init_37 : decode cX6_init 37 = .ok (.bipush 10, 2) := by decide +kernel
theorem dX6_init_39 : decode cX6_init 39 = .ok (.iastore, 1) := by decide +kernel
theorem dX6_init_40 : decode cX6_init 40 = .ok (.putfield 21, 3) := by decide +kernel
theorem dX6_init_43 : decode cX6_init 43 = .ok (.aload_n 0, 1) := by decide +kernel
theorem dX6_init_44 : decode cX6_init 44 = .ok (.iconst 3, 1) := by decide +kernel
theorem dX6_init_45 : decode cX6_init 45 = .ok (.newarray .int, 2) := by decide +kernel
theorem dX6_init_47 : decode cX6_init 47 = .ok (.dup, 1) := by decide +kernel
theorem dX6_init_48 : decode cX6_init 48 = .ok (.iconst 0, 1) := by decide +kernel
theorem dX6_init_49 : decode cX6_init 49 = .ok (.sipush 400, 3) := by decide +kernel
theorem dX6_init_52 : decode cX6_init 52 = .ok (.iastore, 1) := by decide +kernel
theorem dX6_init_53 : decode cX6_init 53 = .ok (.dup, 1) := by decide +kernel
theorem dX6_init_54 : decode cX6_init 54 = .ok (.iconst 1, 1) := by decide +kernel
theorem dX6_init_55 : decode cX6_init 55 = .ok (.sipush 300, 3) := by decide +kernel
theorem dX6_init_58 : decode cX6_init 58 = .ok (.iastore, 1) := by decide +kernel
theorem dX6_init_59 : decode cX6_init 59 = .ok (.dup, 1) := by decide +kernel
theorem dX6_init_60 : decode cX6_init 60 = .ok (.iconst 2, 1) := by decide +kernel
theorem dX6_init_61 : decode cX6_init 61 = .ok (.sipush 250, 3) := by decide +kernel
theorem dX6_init_64 : decode cX6_init 64 = .ok (.iastore, 1) := by decide +kernel
theorem dX6_init_65 : decode cX6_init 65 = .ok (.putfield 25, 3) := by decide +kernel
theorem dX6_init_68 : decode cX6_init 68 = .ok (.aload_n 0, 1) := by decide +kernel
theorem dX6_init_69 : decode cX6_init 69 = .ok (.bipush 20, 2) := by decide +kernel
theorem dX6_init_71 : decode cX6_init 71 = .ok (.putfield 28, 3) := by decide +kernel
theorem dX6_init_74 : decode cX6_init 74 = .ok (.aload_n 0, 1) := by decide +kernel
theorem dX6_init_75 : decode cX6_init 75 = .ok (.iconst 0, 1) := by decide +kernel
theorem dX6_init_76 : decode cX6_init 76 = .ok (.putfield 32, 3) := by decide +kernel
theorem dX6_init_79 : decode cX6_init 79 = .ok (.aload_n 0, 1) := by decide +kernel
theorem dX6_init_80 : decode cX6_init 80 = .ok (.iconst 5, 1) := by decide +kernel
theorem dX6_init_81 : decode cX6_init 81 = .ok (.newarray .int, 2) := by decide +kernel
theorem dX6_init_83 : decode cX6_init 83 = .ok (.putfield 35, 3) := by decide +kernel
theorem dX6_init_86 : decode cX6_init 86 = .ok (.aload_n 0, 1) := by decide +kernel
theorem dX6_init_87 : decode cX6_init 87 = .ok (.new 38, 3) := by decide +kernel
theorem dX6_init_90 : decode cX6_init 90 = .ok (.dup, 1) := by decide +kernel
theorem dX6_init_91 : decode cX6_init 91 = .ok (.invokespecial 40, 3) := by decide +kernel
theorem dX6_init_94 : decode cX6_init 94 = .ok (.putfield 41, 3) := by decide +kernel
theorem dX6_init_97 : decode cX6_init 97 = .ok (.aload_n 0, 1) := by decide +kernel
theorem dX6_init_98 : decode cX6_init 98 = .ok (.new 45, 3) := by decide +kernel
theorem dX6_init_101 : decode cX6_init 101 = .ok (.dup, 1) := by decide +kernel
theorem dX6_init_102 : decode cX6_init 102 = .ok (.invokespecial 47, 3) := by decide +kernel
theorem dX6_init_105 : decode cX6_init 105 = .ok (.putfield 48, 3) := by decide +kernel
theorem dX6_init_108 : decode cX6_init 108 = .ok (.aload_n 0, 1) := by decide +kernel
theorem dX6_init_109 : decode cX6_init 109 = .ok (.new 52, 3) := by decide +kernel
theorem dX6_init_112 : decode cX6_init 112 = .ok (.dup, 1) := by decide +kernel
theorem dX6_init_113 : decode cX6_init 113 = .ok (.invokespecial 54, 3) := by decide +kernel
theorem dX6_init_116 : decode cX6_init 116 = .ok (.putfield 55, 3) := by decide +kernel
theorem dX6_init_119 : decode cX6_init 119 = .ok (.aload_n 0, 1) := by decide +kernel
theorem dX6_init_120 : decode cX6_init 120 = .ok (.bipush 24, 2) := by decide +kernel
theorem dX6_init_122 : decode cX6_init 122 = .ok (.newarray .int, 2) := by decide +kernel
theorem dX6_init_124 : decode cX6_init 124 = .ok (.putfield 59, 3) := by decide +kernel
theorem dX6_init_127 : decode cX6_init 127 = .ok (.aload_n 0, 1) := by decide +kernel
theorem dX6_init_128 : decode cX6_init 128 = .ok (.bipush 50, 2) := by decide +kernel
theorem dX6_init_130 : decode cX6_init 130 = .ok (.newarray .int, 2) := by decide +kernel
theorem dX6_init_132 : decode cX6_init 132 = .ok (.putfield 62, 3) := by decide +kernel
theorem dX6_init_135 : decode cX6_init 135 = .ok (.return_, 1) := by decide +kernel
theorem dX6_addChild_0 : decode cX6_addChild 0 = .ok (.iload_n 1, 1) := by decide +kernel
theorem dX6_addChild_1 : decode cX6_addChild 1 = .ok (.iconst 3, 1) := by decide +kernel
theorem dX6_addChild_2 : decode cX6_addChild 2 = .ok (.if_icmp .lt 19, 3) := by decide +kernel
theorem dX6_addChild_5 : decode cX6_addChild 5 = .ok (.iload_n 1, 1) := by decide +kernel
theorem dX6_addChild_6 : decode cX6_addChild 6 = .ok (.bipush 78, 2) := by decide +kernel
theorem dX6_addChild_8 : decode cX6_addChild 8 = .ok (.if_icmp .ge 13, 3) := by decide +kernel
theorem dX6_addChild_11 : decode cX6_addChild 11 = .ok (.iload_n 2, 1) := by decide +kernel
theorem dX6_addChild_12 : decode cX6_addChild 12 = .ok (.ifCond .lt 9, 3) := by decide +kernel
theorem dX6_addChild_15 : decode cX6_addChild 15 = .ok (.iload_n 2, 1) := by decide +kernel
theorem dX6_addChild_16 : decode cX6_addChild 16 = .ok (.bipush 12, 2) := by decide +kernel
theorem dX6_addChild_18 : decode cX6_addChild 18 = .ok (.if_icmp .lt 5, 3) := by decide +kernel
theorem dX6_addChild_21 : decode cX6_addChild 21 = .ok (.iconst (-1), 1) := by decide +kernel
theorem dX6_addChild_22 : decode cX6_addChild 22 = .ok (.ireturn, 1) := by decide +kernel
theorem dX6_addChild_23 : decode cX6_addChild 23 = .ok (.iconst 0, 1) := by decide +kernel
theorem dX6_addChild_24 : decode cX6_addChild 24 = .ok (.istore_n 3, 1) := by decide +kernel
theorem dX6_addChild_25 : decode cX6_addChild 25 = .ok (.iload_n 3, 1) := by decide +kernel
theorem dX6_addChild_26 : decode cX6_addChild 26 = .ok (.aload_n 0, 1) := by decide +kernel
theorem dX6_addChild_27 : decode cX6_addChild 27 = .ok (.getfield 11, 3) := by decide +kernel
theorem dX6_addChild_30 : decode cX6_addChild 30 = .ok (.arraylength, 1) := by decide +kernel
theorem dX6_addChild_31 : decode cX6_addChild 31 = .ok (.if_icmp .ge 35, 3) := by decide +kernel
theorem dX6_addChild_34 : decode cX6_addChild 34 = .ok (.aload_n 0, 1) := by decide +kernel
theorem dX6_addChild_35 : decode cX6_addChild 35 = .ok (.getfield 11, 3) := by decide +kernel
theorem dX6_addChild_38 : decode cX6_addChild 38 = .ok (.iload_n 3, 1) := by decide +kernel
theorem dX6_addChild_39 : decode cX6_addChild 39 = .ok (.aaload, 1) := by decide +kernel
theorem dX6_addChild_40 : decode cX6_addChild 40 = .ok (.ifnonnull 20, 3) := by decide +kernel
theorem dX6_addChild_43 : decode cX6_addChild 43 = .ok (.aload_n 0, 1) := by decide +kernel
theorem dX6_addChild_44 : decode cX6_addChild 44 = .ok (.getfield 11, 3) := by decide +kernel
theorem dX6_addChild_47 : decode cX6_addChild 47 = .ok (.iload_n 3, 1) := by decide +kernel
theorem dX6_addChild_48 : decode cX6_addChild 48 = .ok (.new 9, 3) := by decide +kernel
theorem dX6_addChild_51 : decode cX6_addChild 51 = .ok (.dup, 1) := by decide +kernel
theorem dX6_addChild_52 : decode cX6_addChild 52 = .ok (.iload_n 1, 1) := by decide +kernel
theorem dX6_addChild_53 : decode cX6_addChild 53 = .ok (.iload_n 2, 1) := by decide +kernel
theorem dX6_addChild_54 : decode cX6_addChild 54 = .ok (.invokespecial 65, 3) := by decide +kernel
theorem dX6_addChild_57 : decode cX6_addChild 57 = .ok (.aastore, 1) := by decide +kernel
theorem dX6_addChild_58 : decode cX6_addChild 58 = .ok (.iload_n 3, 1) := by decide +kernel
theorem dX6_addChild_59 : decode cX6_addChild 59 = .ok (.ireturn, 1) := by decide +kernel
theorem dX6_addChild_60 : decode cX6_addChild 60 = .ok (.iinc 3 1, 3) := by decide +kernel
theorem dX6_addChild_63 : decode cX6_addChild 63 = .ok (.goto (-38), 3) := by decide +kernel
theorem dX6_addChild_66 : decode cX6_addChild 66 = .ok (.bipush (-3), 2) := by decide +kernel
theorem dX6_addChild_68 : decode cX6_addChild 68 = .ok (.ireturn, 1) := by decide +kernel
theorem dX6_children_0 : decode cX6_children 0 = .ok (.iconst 0, 1) := by decide +kernel
theorem dX6_children_1 : decode cX6_children 1 = .ok (.istore_n 1, 1) := by decide +kernel
theorem dX6_children_2 : decode cX6_children 2 = .ok (.aload_n 0, 1) := by decide +kernel
theorem dX6_children_3 : decode cX6_children 3 = .ok (.getfield 11, 3) := by decide +kernel
theorem dX6_children_6 : decode cX6_children 6 = .ok (.astore_n 2, 1) := by decide +kernel
theorem dX6_children_7 : decode cX6_children 7 = .ok (.aload_n 2, 1) := by decide +kernel
theorem dX6_children_8 : decode cX6_children 8 = .ok (.arraylength, 1) := by decide +kernel
theorem dX6_children_9 : decode cX6_children 9 = .ok (.istore_n 3, 1) := by decide +kernel
theorem dX6_children_10 : decode cX6_children 10 = .ok (.iconst 0, 1) := by decide +kernel
theorem dX6_children_11 : decode cX6_children 11 = .ok (.istore 4, 2) := by decide +kernel
theorem dX6_children_13 : decode cX6_children 13 = .ok (.iload 4, 2) := by decide +kernel
theorem dX6_children_15 : decode cX6_children 15 = .ok (.iload_n 3, 1) := by decide +kernel
theorem dX6_children_16 : decode cX6_children 16 = .ok (.if_icmp .ge 23, 3) := by decide +kernel
theorem dX6_children_19 : decode cX6_children 19 = .ok (.aload_n 2, 1) := by decide +kernel
theorem dX6_children_20 : decode cX6_children 20 = .ok (.iload 4, 2) := by decide +kernel
theorem dX6_children_22 : decode cX6_children 22 = .ok (.aaload, 1) := by decide +kernel
theorem dX6_children_23 : decode cX6_children 23 = .ok (.astore 5, 2) := by decide +kernel
theorem dX6_children_25 : decode cX6_children 25 = .ok (.aload 5, 2) := by decide +kernel
theorem dX6_children_27 : decode cX6_children 27 = .ok (.ifnull 6, 3) := by decide +kernel
theorem dX6_children_30 : decode cX6_children 30 = .ok (.iinc 1 1, 3) := by decide +kernel
theorem dX6_children_33 : decode cX6_children 33 = .ok (.iinc 4 1, 3) := by decide +kernel
theorem dX6_children_36 : decode cX6_children 36 = .ok (.goto (-23), 3) := by decide +kernel
theorem dX6_children_39 : decode cX6_children 39 = .ok (.iload_n 1, 1) := by decide +kernel
theorem dX6_children_40 : decode cX6_children 40 = .ok (.ireturn, 1) := by decide +kernel
theorem dX6_age_0 : decode cX6_age 0 = .ok (.aload_n 0, 1) := by decide +kernel
theorem dX6_age_1 : decode cX6_age 1 = .ok (.iload_n 1, 1) := by decide +kernel
theorem dX6_age_2 : decode cX6_age 2 = .ok (.invokevirtual 68, 3) := by decide +kernel
theorem dX6_age_5 : decode cX6_age 5 = .ok (.astore_n 2, 1) := by decide +kernel
theorem dX6_age_6 : decode cX6_age 6 = .ok (.aload_n 2, 1) := by decide +kernel
theorem dX6_age_7 : decode cX6_age 7 = .ok (.ifnonnull 7, 3) := by decide +kernel
theorem dX6_age_10 : decode cX6_age 10 = .ok (.iconst (-1), 1) := by decide +kernel
theorem dX6_age_11 : decode cX6_age 11 = .ok (.goto 7, 3) := by decide +kernel
theorem dX6_age_14 : decode cX6_age 14 = .ok (.aload_n 2, 1) := by decide +kernel
theorem dX6_age_15 : decode cX6_age 15 = .ok (.getfield 75, 3) := by decide +kernel
theorem dX6_age_18 : decode cX6_age 18 = .ok (.ireturn, 1) := by decide +kernel
theorem dX6_isAdmitted_0 : decode cX6_isAdmitted 0 = .ok (.aload_n 0, 1) := by decide +kernel
theorem dX6_isAdmitted_1 : decode cX6_isAdmitted 1 = .ok (.iload_n 1, 1) := by decide +kernel
theorem dX6_isAdmitted_2 : decode cX6_isAdmitted 2 = .ok (.invokevirtual 68, 3) := by decide +kernel
theorem dX6_isAdmitted_5 : decode cX6_isAdmitted 5 = .ok (.astore_n 2, 1) := by decide +kernel
theorem dX6_isAdmitted_6 : decode cX6_isAdmitted 6 = .ok (.aload_n 2, 1) := by decide +kernel
theorem dX6_isAdmitted_7 : decode cX6_isAdmitted 7 = .ok (.ifnonnull 5, 3) := by decide +kernel
theorem dX6_isAdmitted_10 : decode cX6_isAdmitted 10 = .ok (.iconst (-1), 1) := by decide +kernel
theorem dX6_isAdmitted_11 : decode cX6_isAdmitted 11 = .ok (.ireturn, 1) := by decide +kernel
theorem dX6_isAdmitted_12 : decode cX6_isAdmitted 12 = .ok (.aload_n 2, 1) := by decide +kernel
theorem dX6_isAdmitted_13 : decode cX6_isAdmitted 13 = .ok (.getfield 78, 3) := by decide +kernel
theorem dX6_isAdmitted_16 : decode cX6_isAdmitted 16 = .ok (.ifCond .eq 7, 3) := by decide +kernel
theorem dX6_isAdmitted_19 : decode cX6_isAdmitted 19 = .ok (.iconst 1, 1) := by decide +kernel
theorem dX6_isAdmitted_20 : decode cX6_isAdmitted 20 = .ok (.goto 4, 3) := by decide +kernel
theorem dX6_isAdmitted_23 : decode cX6_isAdmitted 23 = .ok (.iconst 0, 1) := by decide +kernel
theorem dX6_isAdmitted_24 : decode cX6_isAdmitted 24 = .ok (.ireturn, 1) := by decide +kernel
theorem dX6_hours_0 : decode cX6_hours 0 = .ok (.aload_n 0, 1) := by decide +kernel
theorem dX6_hours_1 : decode cX6_hours 1 = .ok (.iload_n 1, 1) := by decide +kernel
theorem dX6_hours_2 : decode cX6_hours 2 = .ok (.invokevirtual 68, 3) := by decide +kernel
theorem dX6_hours_5 : decode cX6_hours 5 = .ok (.astore_n 2, 1) := by decide +kernel
theorem dX6_hours_6 : decode cX6_hours 6 = .ok (.aload_n 2, 1) := by decide +kernel
theorem dX6_hours_7 : decode cX6_hours 7 = .ok (.ifnonnull 7, 3) := by decide +kernel
theorem dX6_hours_10 : decode cX6_hours 10 = .ok (.iconst (-1), 1) := by decide +kernel
theorem dX6_hours_11 : decode cX6_hours 11 = .ok (.goto 7, 3) := by decide +kernel
theorem dX6_hours_14 : decode cX6_hours 14 = .ok (.aload_n 2, 1) := by decide +kernel
theorem dX6_hours_15 : decode cX6_hours 15 = .ok (.invokevirtual 82, 3) := by decide +kernel
theorem dX6_hours_18 : decode cX6_hours 18 = .ok (.ireturn, 1) := by decide +kernel
theorem dX6_book_0 : decode cX6_book 0 = .ok (.aload_n 0, 1) := by decide +kernel
theorem dX6_book_1 : decode cX6_book 1 = .ok (.iload_n 1, 1) := by decide +kernel
theorem dX6_book_2 : decode cX6_book 2 = .ok (.invokevirtual 68, 3) := by decide +kernel
theorem dX6_book_5 : decode cX6_book 5 = .ok (.astore 5, 2) := by decide +kernel
theorem dX6_book_7 : decode cX6_book 7 = .ok (.aload 5, 2) := by decide +kernel
theorem dX6_book_9 : decode cX6_book 9 = .ok (.ifnull 19, 3) := by decide +kernel
theorem dX6_book_12 : decode cX6_book 12 = .ok (.iload_n 2, 1) := by decide +kernel
theorem dX6_book_13 : decode cX6_book 13 = .ok (.invokestatic 85, 3) := by decide +kernel
theorem dX6_book_16 : decode cX6_book 16 = .ok (.ifCond .eq 12, 3) := by decide +kernel
theorem dX6_book_19 : decode cX6_book 19 = .ok (.iload_n 3, 1) := by decide +kernel
theorem dX6_book_20 : decode cX6_book 20 = .ok (.iload 4, 2) := by decide +kernel
theorem dX6_book_22 : decode cX6_book 22 = .ok (.invokestatic 89, 3) := by decide +kernel
theorem dX6_book_25 : decode cX6_book 25 = .ok (.ifCond .ne 5, 3) := by decide +kernel
theorem dX6_book_28 : decode cX6_book 28 = .ok (.iconst (-1), 1) := by decide +kernel
theorem dX6_book_29 : decode cX6_book 29 = .ok (.ireturn, 1) := by decide +kernel
theorem dX6_book_30 : decode cX6_book 30 = .ok (.aload_n 0, 1) := by decide +kernel
theorem dX6_book_31 : decode cX6_book 31 = .ok (.aload 5, 2) := by decide +kernel
theorem dX6_book_33 : decode cX6_book 33 = .ok (.aload 5, 2) := by decide +kernel
theorem dX6_book_35 : decode cX6_book 35 = .ok (.getfield 93, 3) := by decide +kernel
theorem dX6_book_38 : decode cX6_book 38 = .ok (.iload_n 2, 1) := by decide +kernel
theorem dX6_book_39 : decode cX6_book 39 = .ok (.iload_n 3, 1) := by decide +kernel
theorem dX6_book_40 : decode cX6_book 40 = .ok (.iload 4, 2) := by decide +kernel
theorem dX6_book_42 : decode cX6_book 42 = .ok (.invokestatic 97, 3) := by decide +kernel
theorem dX6_book_45 : decode cX6_book 45 = .ok (.invokevirtual 101, 3) := by decide +kernel
theorem dX6_book_48 : decode cX6_book 48 = .ok (.ireturn, 1) := by decide +kernel
theorem dX6_childAt_0 : decode cX6_childAt 0 = .ok (.iload_n 1, 1) := by decide +kernel
theorem dX6_childAt_1 : decode cX6_childAt 1 = .ok (.ifCond .lt 12, 3) := by decide +kernel
theorem dX6_childAt_4 : decode cX6_childAt 4 = .ok (.iload_n 1, 1) := by decide +kernel
theorem dX6_childAt_5 : decode cX6_childAt 5 = .ok (.aload_n 0, 1) := by decide +kernel
theorem dX6_childAt_6 : decode cX6_childAt 6 = .ok (.getfield 11, 3) := by decide +kernel
theorem dX6_childAt_9 : decode cX6_childAt 9 = .ok (.arraylength, 1) := by decide +kernel
theorem dX6_childAt_10 : decode cX6_childAt 10 = .ok (.if_icmp .lt 5, 3) := by decide +kernel
theorem dX6_childAt_13 : decode cX6_childAt 13 = .ok (.aconst_null, 1) := by decide +kernel
theorem dX6_childAt_14 : decode cX6_childAt 14 = .ok (.areturn, 1) := by decide +kernel
theorem dX6_childAt_15 : decode cX6_childAt 15 = .ok (.aload_n 0, 1) := by decide +kernel
theorem dX6_childAt_16 : decode cX6_childAt 16 = .ok (.getfield 11, 3) := by decide +kernel
theorem dX6_childAt_19 : decode cX6_childAt 19 = .ok (.iload_n 1, 1) := by decide +kernel
theorem dX6_childAt_20 : decode cX6_childAt 20 = .ok (.aaload, 1) := by decide +kernel
theorem dX6_childAt_21 : decode cX6_childAt 21 = .ok (.areturn, 1) := by decide +kernel
theorem dX6_rebook_0 : decode cX6_rebook 0 = .ok (.lload_n 2, 1) := by decide +kernel
theorem dX6_rebook_1 : decode cX6_rebook 1 = .ok (.aload_n 1, 1) := by decide +kernel
theorem dX6_rebook_2 : decode cX6_rebook 2 = .ok (.getfield 93, 3) := by decide +kernel
theorem dX6_rebook_5 : decode cX6_rebook 5 = .ok (.ldc2_w 108, 3) := by decide +kernel
theorem dX6_rebook_8 : decode cX6_rebook 8 = .ok (.lxor, 1) := by decide +kernel
theorem dX6_rebook_9 : decode cX6_rebook 9 = .ok (.land, 1) := by decide +kernel
theorem dX6_rebook_10 : decode cX6_rebook 10 = .ok (.lstore 4, 2) := by decide +kernel
theorem dX6_rebook_12 : decode cX6_rebook 12 = .ok (.aload_n 1, 1) := by decide +kernel
theorem dX6_rebook_13 : decode cX6_rebook 13 = .ok (.getfield 78, 3) := by decide +kernel
theorem dX6_rebook_16 : decode cX6_rebook 16 = .ok (.ifCond .eq 16, 3) := by decide +kernel
theorem dX6_rebook_19 : decode cX6_rebook 19 = .ok (.aload_n 0, 1) := by decide +kernel
theorem dX6_rebook_20 : decode cX6_rebook 20 = .ok (.lload 4, 2) := by decide +kernel
theorem dX6_rebook_22 : decode cX6_rebook 22 = .ok (.aload_n 1, 1) := by decide +kernel
theorem dX6_rebook_23 : decode cX6_rebook 23 = .ok (.invokevirtual 110, 3) := by decide +kernel
theorem dX6_rebook_26 : decode cX6_rebook 26 = .ok (.ifCond .ne 6, 3) := by decide +kernel
theorem dX6_rebook_29 : decode cX6_rebook 29 = .ok (.bipush (-3), 2) := by decide +kernel
theorem dX6_rebook_31 : decode cX6_rebook 31 = .ok (.ireturn, 1) := by decide +kernel
theorem dX6_rebook_32 : decode cX6_rebook 32 = .ok (.aload_n 1, 1) := by decide +kernel
theorem dX6_rebook_33 : decode cX6_rebook 33 = .ok (.lload_n 2, 1) := by decide +kernel
theorem dX6_rebook_34 : decode cX6_rebook 34 = .ok (.putfield 93, 3) := by decide +kernel
theorem dX6_rebook_37 : decode cX6_rebook 37 = .ok (.aload_n 1, 1) := by decide +kernel
theorem dX6_rebook_38 : decode cX6_rebook 38 = .ok (.invokevirtual 82, 3) := by decide +kernel
theorem dX6_rebook_41 : decode cX6_rebook 41 = .ok (.ireturn, 1) := by decide +kernel
theorem dX6_waited_0 : decode cX6_waited 0 = .ok (.aload_n 0, 1) := by decide +kernel
theorem dX6_waited_1 : decode cX6_waited 1 = .ok (.iload_n 1, 1) := by decide +kernel
theorem dX6_waited_2 : decode cX6_waited 2 = .ok (.invokevirtual 68, 3) := by decide +kernel
theorem dX6_waited_5 : decode cX6_waited 5 = .ok (.astore_n 2, 1) := by decide +kernel
theorem dX6_waited_6 : decode cX6_waited 6 = .ok (.aload_n 2, 1) := by decide +kernel
theorem dX6_waited_7 : decode cX6_waited 7 = .ok (.ifnonnull 5, 3) := by decide +kernel
theorem dX6_waited_10 : decode cX6_waited 10 = .ok (.iconst (-1), 1) := by decide +kernel
theorem dX6_waited_11 : decode cX6_waited 11 = .ok (.ireturn, 1) := by decide +kernel
theorem dX6_waited_12 : decode cX6_waited 12 = .ok (.aload_n 2, 1) := by decide +kernel
theorem dX6_waited_13 : decode cX6_waited 13 = .ok (.getfield 78, 3) := by decide +kernel
theorem dX6_waited_16 : decode cX6_waited 16 = .ok (.ifCond .eq 8, 3) := by decide +kernel
theorem dX6_waited_19 : decode cX6_waited 19 = .ok (.bipush (-2), 2) := by decide +kernel
theorem dX6_waited_21 : decode cX6_waited 21 = .ok (.goto 7, 3) := by decide +kernel
theorem dX6_waited_24 : decode cX6_waited 24 = .ok (.aload_n 2, 1) := by decide +kernel
theorem dX6_waited_25 : decode cX6_waited 25 = .ok (.getfield 114, 3) := by decide +kernel
theorem dX6_waited_28 : decode cX6_waited 28 = .ok (.ireturn, 1) := by decide +kernel
theorem dX6_points_0 : decode cX6_points 0 = .ok (.aload_n 0, 1) := by decide +kernel
theorem dX6_points_1 : decode cX6_points 1 = .ok (.iload_n 1, 1) := by decide +kernel
theorem dX6_points_2 : decode cX6_points 2 = .ok (.invokevirtual 68, 3) := by decide +kernel
theorem dX6_points_5 : decode cX6_points 5 = .ok (.astore_n 2, 1) := by decide +kernel
theorem dX6_points_6 : decode cX6_points 6 = .ok (.aload_n 2, 1) := by decide +kernel
theorem dX6_points_7 : decode cX6_points 7 = .ok (.ifnonnull 5, 3) := by decide +kernel
theorem dX6_points_10 : decode cX6_points 10 = .ok (.iconst (-1), 1) := by decide +kernel
theorem dX6_points_11 : decode cX6_points 11 = .ok (.ireturn, 1) := by decide +kernel
theorem dX6_points_12 : decode cX6_points 12 = .ok (.aload_n 2, 1) := by decide +kernel
theorem dX6_points_13 : decode cX6_points 13 = .ok (.getfield 78, 3) := by decide +kernel
theorem dX6_points_16 : decode cX6_points 16 = .ok (.ifCond .eq 8, 3) := by decide +kernel
theorem dX6_points_19 : decode cX6_points 19 = .ok (.bipush (-2), 2) := by decide +kernel
theorem dX6_points_21 : decode cX6_points 21 = .ok (.goto 8, 3) := by decide +kernel
theorem dX6_points_24 : decode cX6_points 24 = .ok (.aload_n 0, 1) := by decide +kernel
theorem dX6_points_25 : decode cX6_points 25 = .ok (.aload_n 2, 1) := by decide +kernel
theorem dX6_points_26 : decode cX6_points 26 = .ok (.invokevirtual 117, 3) := by decide +kernel
theorem dX6_points_29 : decode cX6_points 29 = .ok (.ireturn, 1) := by decide +kernel
theorem dX6_waiting_0 : decode cX6_waiting 0 = .ok (.iload_n 1, 1) := by decide +kernel
theorem dX6_waiting_1 : decode cX6_waiting 1 = .ok (.ifCond .ge 5, 3) := by decide +kernel
theorem dX6_waiting_4 : decode cX6_waiting 4 = .ok (.iconst (-1), 1) := by decide +kernel
theorem dX6_waiting_5 : decode cX6_waiting 5 = .ok (.ireturn, 1) := by decide +kernel
theorem dX6_waiting_6 : decode cX6_waiting 6 = .ok (.aload_n 0, 1) := by decide +kernel
theorem dX6_waiting_7 : decode cX6_waiting 7 = .ok (.invokevirtual 121, 3) := by decide +kernel
theorem dX6_waiting_10 : decode cX6_waiting 10 = .ok (.iconst 0, 1) := by decide +kernel
theorem dX6_waiting_11 : decode cX6_waiting 11 = .ok (.istore_n 2, 1) := by decide +kernel
theorem dX6_waiting_12 : decode cX6_waiting 12 = .ok (.iload_n 2, 1) := by decide +kernel
theorem dX6_waiting_13 : decode cX6_waiting 13 = .ok (.aload_n 0, 1) := by decide +kernel
theorem dX6_waiting_14 : decode cX6_waiting 14 = .ok (.getfield 59, 3) := by decide +kernel
theorem dX6_waiting_17 : decode cX6_waiting 17 = .ok (.arraylength, 1) := by decide +kernel
theorem dX6_waiting_18 : decode cX6_waiting 18 = .ok (.if_icmp .ge 32, 3) := by decide +kernel
theorem dX6_waiting_21 : decode cX6_waiting 21 = .ok (.aload_n 0, 1) := by decide +kernel
theorem dX6_waiting_22 : decode cX6_waiting 22 = .ok (.getfield 59, 3) := by decide +kernel
theorem dX6_waiting_25 : decode cX6_waiting 25 = .ok (.iload_n 2, 1) := by decide +kernel
theorem dX6_waiting_26 : decode cX6_waiting 26 = .ok (.iaload, 1) := by decide +kernel
theorem dX6_waiting_27 : decode cX6_waiting 27 = .ok (.istore_n 3, 1) := by decide +kernel
theorem dX6_waiting_28 : decode cX6_waiting 28 = .ok (.iload_n 3, 1) := by decide +kernel
theorem dX6_waiting_29 : decode cX6_waiting 29 = .ok (.iconst (-1), 1) := by decide +kernel
theorem dX6_waiting_30 : decode cX6_waiting 30 = .ok (.if_icmp .eq 14, 3) := by decide +kernel
theorem dX6_waiting_33 : decode cX6_waiting 33 = .ok (.aload_n 0, 1) := by decide +kernel
theorem dX6_waiting_34 : decode cX6_waiting 34 = .ok (.iload_n 3, 1) := by decide +kernel
theorem dX6_waiting_35 : decode cX6_waiting 35 = .ok (.invokevirtual 124, 3) := by decide +kernel
theorem dX6_waiting_38 : decode cX6_waiting 38 = .ok (.iload_n 1, 1) := by decide +kernel
theorem dX6_waiting_39 : decode cX6_waiting 39 = .ok (.if_icmp .ne 5, 3) := by decide +kernel
theorem dX6_waiting_42 : decode cX6_waiting 42 = .ok (.iload_n 2, 1) := by decide +kernel
theorem dX6_waiting_43 : decode cX6_waiting 43 = .ok (.ireturn, 1) := by decide +kernel
theorem dX6_waiting_44 : decode cX6_waiting 44 = .ok (.iinc 2 1, 3) := by decide +kernel
theorem dX6_waiting_47 : decode cX6_waiting 47 = .ok (.goto (-35), 3) := by decide +kernel
theorem dX6_waiting_50 : decode cX6_waiting 50 = .ok (.bipush (-9), 2) := by decide +kernel
theorem dX6_waiting_52 : decode cX6_waiting 52 = .ok (.ireturn, 1) := by decide +kernel
theorem dX6_admit_0 : decode cX6_admit 0 = .ok (.iconst 0, 1) := by decide +kernel
theorem dX6_admit_1 : decode cX6_admit 1 = .ok (.istore_n 1, 1) := by decide +kernel
theorem dX6_admit_2 : decode cX6_admit 2 = .ok (.iconst 0, 1) := by decide +kernel
theorem dX6_admit_3 : decode cX6_admit 3 = .ok (.istore_n 2, 1) := by decide +kernel
theorem dX6_admit_4 : decode cX6_admit 4 = .ok (.iload_n 2, 1) := by decide +kernel
theorem dX6_admit_5 : decode cX6_admit 5 = .ok (.bipush 24, 2) := by decide +kernel
theorem dX6_admit_7 : decode cX6_admit 7 = .ok (.if_icmp .ge 29, 3) := by decide +kernel
theorem dX6_admit_10 : decode cX6_admit 10 = .ok (.aload_n 0, 1) := by decide +kernel
theorem dX6_admit_11 : decode cX6_admit 11 = .ok (.invokevirtual 128, 3) := by decide +kernel
theorem dX6_admit_14 : decode cX6_admit 14 = .ok (.astore_n 3, 1) := by decide +kernel
theorem dX6_admit_15 : decode cX6_admit 15 = .ok (.aload_n 3, 1) := by decide +kernel
theorem dX6_admit_16 : decode cX6_admit 16 = .ok (.ifnonnull 6, 3) := by decide +kernel
theorem dX6_admit_19 : decode cX6_admit 19 = .ok (.goto 17, 3) := by decide +kernel
theorem dX6_admit_22 : decode cX6_admit 22 = .ok (.aload_n 3, 1) := by decide +kernel
theorem dX6_admit_23 : decode cX6_admit 23 = .ok (.iconst 1, 1) := by decide +kernel
theorem dX6_admit_24 : decode cX6_admit 24 = .ok (.putfield 78, 3) := by decide +kernel
theorem dX6_admit_27 : decode cX6_admit 27 = .ok (.iinc 1 1, 3) := by decide +kernel
theorem dX6_admit_30 : decode cX6_admit 30 = .ok (.iinc 2 1, 3) := by decide +kernel
theorem dX6_admit_33 : decode cX6_admit 33 = .ok (.goto (-29), 3) := by decide +kernel
theorem dX6_admit_36 : decode cX6_admit 36 = .ok (.iload_n 1, 1) := by decide +kernel
theorem dX6_admit_37 : decode cX6_admit 37 = .ok (.ireturn, 1) := by decide +kernel
theorem dX6_pointsOf_0 : decode cX6_pointsOf 0 = .ok (.bipush 10, 2) := by decide +kernel
theorem dX6_pointsOf_2 : decode cX6_pointsOf 2 = .ok (.aload_n 1, 1) := by decide +kernel
theorem dX6_pointsOf_3 : decode cX6_pointsOf 3 = .ok (.getfield 114, 3) := by decide +kernel
theorem dX6_pointsOf_6 : decode cX6_pointsOf 6 = .ok (.imul, 1) := by decide +kernel
theorem dX6_pointsOf_7 : decode cX6_pointsOf 7 = .ok (.aload_n 1, 1) := by decide +kernel
theorem dX6_pointsOf_8 : decode cX6_pointsOf 8 = .ok (.invokevirtual 82, 3) := by decide +kernel
theorem dX6_pointsOf_11 : decode cX6_pointsOf 11 = .ok (.iadd, 1) := by decide +kernel
theorem dX6_pointsOf_12 : decode cX6_pointsOf 12 = .ok (.istore_n 2, 1) := by decide +kernel
theorem dX6_pointsOf_13 : decode cX6_pointsOf 13 = .ok (.aload_n 0, 1) := by decide +kernel
theorem dX6_pointsOf_14 : decode cX6_pointsOf 14 = .ok (.aload_n 1, 1) := by decide +kernel
theorem dX6_pointsOf_15 : decode cX6_pointsOf 15 = .ok (.getfield 132, 3) := by decide +kernel
theorem dX6_pointsOf_18 : decode cX6_pointsOf 18 = .ok (.invokevirtual 135, 3) := by decide +kernel
theorem dX6_pointsOf_21 : decode cX6_pointsOf 21 = .ok (.ifCond .eq 10, 3) := by decide +kernel
theorem dX6_pointsOf_24 : decode cX6_pointsOf 24 = .ok (.iload_n 2, 1) := by decide +kernel
theorem dX6_pointsOf_25 : decode cX6_pointsOf 25 = .ok (.bipush 25, 2) := by decide +kernel
theorem dX6_pointsOf_27 : decode cX6_pointsOf 27 = .ok (.iadd, 1) := by decide +kernel
theorem dX6_pointsOf_28 : decode cX6_pointsOf 28 = .ok (.goto 4, 3) := by decide +kernel
theorem dX6_pointsOf_31 : decode cX6_pointsOf 31 = .ok (.iload_n 2, 1) := by decide +kernel
theorem dX6_pointsOf_32 : decode cX6_pointsOf 32 = .ok (.ireturn, 1) := by decide +kernel
theorem dX6_hasAdmittedChild_0 : decode cX6_hasAdmittedChild 0 = .ok (.aload_n 0, 1) := by decide +kernel
theorem dX6_hasAdmittedChild_1 : decode cX6_hasAdmittedChild 1 = .ok (.getfield 11, 3) := by decide +kernel
theorem dX6_hasAdmittedChild_4 : decode cX6_hasAdmittedChild 4 = .ok (.astore_n 2, 1) := by decide +kernel
theorem dX6_hasAdmittedChild_5 : decode cX6_hasAdmittedChild 5 = .ok (.aload_n 2, 1) := by decide +kernel
theorem dX6_hasAdmittedChild_6 : decode cX6_hasAdmittedChild 6 = .ok (.arraylength, 1) := by decide +kernel
theorem dX6_hasAdmittedChild_7 : decode cX6_hasAdmittedChild 7 = .ok (.istore_n 3, 1) := by decide +kernel
theorem dX6_hasAdmittedChild_8 : decode cX6_hasAdmittedChild 8 = .ok (.iconst 0, 1) := by decide +kernel
theorem dX6_hasAdmittedChild_9 : decode cX6_hasAdmittedChild 9 = .ok (.istore 4, 2) := by decide +kernel
theorem dX6_hasAdmittedChild_11 : decode cX6_hasAdmittedChild 11 = .ok (.iload 4, 2) := by decide +kernel
theorem dX6_hasAdmittedChild_13 : decode cX6_hasAdmittedChild 13 = .ok (.iload_n 3, 1) := by decide +kernel
theorem dX6_hasAdmittedChild_14 : decode cX6_hasAdmittedChild 14 = .ok (.if_icmp .ge 39, 3) := by decide +kernel
theorem dX6_hasAdmittedChild_17 : decode cX6_hasAdmittedChild 17 = .ok (.aload_n 2, 1) := by decide +kernel
theorem dX6_hasAdmittedChild_18 : decode cX6_hasAdmittedChild 18 = .ok (.iload 4, 2) := by decide +kernel
theorem dX6_hasAdmittedChild_20 : decode cX6_hasAdmittedChild 20 = .ok (.aaload, 1) := by decide +kernel
theorem dX6_hasAdmittedChild_21 : decode cX6_hasAdmittedChild 21 = .ok (.astore 5, 2) := by decide +kernel
theorem dX6_hasAdmittedChild_23 : decode cX6_hasAdmittedChild 23 = .ok (.aload 5, 2) := by decide +kernel
theorem dX6_hasAdmittedChild_25 : decode cX6_hasAdmittedChild 25 = .ok (.ifnull 22, 3) := by decide +kernel
theorem dX6_hasAdmittedChild_28 : decode cX6_hasAdmittedChild 28 = .ok (.aload 5, 2) := by decide +kernel
theorem dX6_hasAdmittedChild_30 : decode cX6_hasAdmittedChild 30 = .ok (.getfield 78, 3) := by decide +kernel
theorem dX6_hasAdmittedChild_33 : decode cX6_hasAdmittedChild 33 = .ok (.ifCond .eq 14, 3) := by decide +kernel
theorem dX6_hasAdmittedChild_36 : decode cX6_hasAdmittedChild 36 = .ok (.aload 5, 2) := by decide +kernel
theorem dX6_hasAdmittedChild_38 : decode cX6_hasAdmittedChild 38 = .ok (.getfield 132, 3) := by decide +kernel
theorem dX6_hasAdmittedChild_41 : decode cX6_hasAdmittedChild 41 = .ok (.iload_n 1, 1) := by decide +kernel
theorem dX6_hasAdmittedChild_42 : decode cX6_hasAdmittedChild 42 = .ok (.if_icmp .ne 5, 3) := by decide +kernel
theorem dX6_hasAdmittedChild_45 : decode cX6_hasAdmittedChild 45 = .ok (.iconst 1, 1) := by decide +kernel
theorem dX6_hasAdmittedChild_46 : decode cX6_hasAdmittedChild 46 = .ok (.ireturn, 1) := by decide +kernel
theorem dX6_hasAdmittedChild_47 : decode cX6_hasAdmittedChild 47 = .ok (.iinc 4 1, 3) := by decide +kernel
theorem dX6_hasAdmittedChild_50 : decode cX6_hasAdmittedChild 50 = .ok (.goto (-39), 3) := by decide +kernel
theorem dX6_hasAdmittedChild_53 : decode cX6_hasAdmittedChild 53 = .ok (.iconst 0, 1) := by decide +kernel
theorem dX6_hasAdmittedChild_54 : decode cX6_hasAdmittedChild 54 = .ok (.ireturn, 1) := by decide +kernel
theorem dX6_notePriorities_0 : decode cX6_notePriorities 0 = .ok (.iconst 0, 1) := by decide +kernel
theorem dX6_notePriorities_1 : decode cX6_notePriorities 1 = .ok (.istore_n 1, 1) := by decide +kernel
theorem dX6_notePriorities_2 : decode cX6_notePriorities 2 = .ok (.iload_n 1, 1) := by decide +kernel
theorem dX6_notePriorities_3 : decode cX6_notePriorities 3 = .ok (.aload_n 0, 1) := by decide +kernel
theorem dX6_notePriorities_4 : decode cX6_notePriorities 4 = .ok (.getfield 59, 3) := by decide +kernel
theorem dX6_notePriorities_7 : decode cX6_notePriorities 7 = .ok (.arraylength, 1) := by decide +kernel
theorem dX6_notePriorities_8 : decode cX6_notePriorities 8 = .ok (.if_icmp .ge 52, 3) := by decide +kernel
theorem dX6_notePriorities_11 : decode cX6_notePriorities 11 = .ok (.aload_n 0, 1) := by decide +kernel
theorem dX6_notePriorities_12 : decode cX6_notePriorities 12 = .ok (.iload_n 1, 1) := by decide +kernel
theorem dX6_notePriorities_13 : decode cX6_notePriorities 13 = .ok (.invokevirtual 68, 3) := by decide +kernel
theorem dX6_notePriorities_16 : decode cX6_notePriorities 16 = .ok (.astore_n 2, 1) := by decide +kernel
theorem dX6_notePriorities_17 : decode cX6_notePriorities 17 = .ok (.aload_n 2, 1) := by decide +kernel
theorem dX6_notePriorities_18 : decode cX6_notePriorities 18 = .ok (.ifnull 14, 3) := by decide +kernel
theorem dX6_notePriorities_21 : decode cX6_notePriorities 21 = .ok (.aload_n 2, 1) := by decide +kernel
theorem dX6_notePriorities_22 : decode cX6_notePriorities 22 = .ok (.getfield 78, 3) := by decide +kernel
theorem dX6_notePriorities_25 : decode cX6_notePriorities 25 = .ok (.ifCond .ne 7, 3) := by decide +kernel
theorem dX6_notePriorities_28 : decode cX6_notePriorities 28 = .ok (.iconst 1, 1) := by decide +kernel
theorem dX6_notePriorities_29 : decode cX6_notePriorities 29 = .ok (.goto 4, 3) := by decide +kernel
theorem dX6_notePriorities_32 : decode cX6_notePriorities 32 = .ok (.iconst 0, 1) := by decide +kernel
theorem dX6_notePriorities_33 : decode cX6_notePriorities 33 = .ok (.istore_n 3, 1) := by decide +kernel
theorem dX6_notePriorities_34 : decode cX6_notePriorities 34 = .ok (.aload_n 0, 1) := by decide +kernel
theorem dX6_notePriorities_35 : decode cX6_notePriorities 35 = .ok (.getfield 59, 3) := by decide +kernel
theorem dX6_notePriorities_38 : decode cX6_notePriorities 38 = .ok (.iload_n 1, 1) := by decide +kernel
theorem dX6_notePriorities_39 : decode cX6_notePriorities 39 = .ok (.iload_n 3, 1) := by decide +kernel
theorem dX6_notePriorities_40 : decode cX6_notePriorities 40 = .ok (.ifCond .eq 12, 3) := by decide +kernel
theorem dX6_notePriorities_43 : decode cX6_notePriorities 43 = .ok (.aload_n 0, 1) := by decide +kernel
theorem dX6_notePriorities_44 : decode cX6_notePriorities 44 = .ok (.aload_n 2, 1) := by decide +kernel
theorem dX6_notePriorities_45 : decode cX6_notePriorities 45 = .ok (.iload_n 1, 1) := by decide +kernel
theorem dX6_notePriorities_46 : decode cX6_notePriorities 46 = .ok (.invokevirtual 138, 3) := by decide +kernel
theorem dX6_notePriorities_49 : decode cX6_notePriorities 49 = .ok (.goto 4, 3) := by decide +kernel
theorem dX6_notePriorities_52 : decode cX6_notePriorities 52 = .ok (.iconst (-1), 1) := by decide +kernel
theorem dX6_notePriorities_53 : decode cX6_notePriorities 53 = .ok (.iastore, 1) := by decide +kernel
theorem dX6_notePriorities_54 : decode cX6_notePriorities 54 = .ok (.iinc 1 1, 3) := by decide +kernel
theorem dX6_notePriorities_57 : decode cX6_notePriorities 57 = .ok (.goto (-55), 3) := by decide +kernel
theorem dX6_notePriorities_60 : decode cX6_notePriorities 60 = .ok (.return_, 1) := by decide +kernel
theorem dX6_priorityOf_0 : decode cX6_priorityOf 0 = .ok (.aload_n 0, 1) := by decide +kernel
theorem dX6_priorityOf_1 : decode cX6_priorityOf 1 = .ok (.aload_n 1, 1) := by decide +kernel
theorem dX6_priorityOf_2 : decode cX6_priorityOf 2 = .ok (.invokevirtual 117, 3) := by decide +kernel
theorem dX6_priorityOf_5 : decode cX6_priorityOf 5 = .ok (.sipush 128, 3) := by decide +kernel
theorem dX6_priorityOf_8 : decode cX6_priorityOf 8 = .ok (.imul, 1) := by decide +kernel
theorem dX6_priorityOf_9 : decode cX6_priorityOf 9 = .ok (.aload_n 1, 1) := by decide +kernel
theorem dX6_priorityOf_10 : decode cX6_priorityOf 10 = .ok (.getfield 75, 3) := by decide +kernel
theorem dX6_priorityOf_13 : decode cX6_priorityOf 13 = .ok (.iadd, 1) := by decide +kernel
theorem dX6_priorityOf_14 : decode cX6_priorityOf 14 = .ok (.bipush 32, 2) := by decide +kernel
theorem dX6_priorityOf_16 : decode cX6_priorityOf 16 = .ok (.imul, 1) := by decide +kernel
theorem dX6_priorityOf_17 : decode cX6_priorityOf 17 = .ok (.bipush 31, 2) := by decide +kernel
theorem dX6_priorityOf_19 : decode cX6_priorityOf 19 = .ok (.iadd, 1) := by decide +kernel
theorem dX6_priorityOf_20 : decode cX6_priorityOf 20 = .ok (.iload_n 2, 1) := by decide +kernel
theorem dX6_priorityOf_21 : decode cX6_priorityOf 21 = .ok (.isub, 1) := by decide +kernel
theorem dX6_priorityOf_22 : decode cX6_priorityOf 22 = .ok (.ireturn, 1) := by decide +kernel
theorem dX6_countAbove_0 : decode cX6_countAbove 0 = .ok (.iconst 0, 1) := by decide +kernel
theorem dX6_countAbove_1 : decode cX6_countAbove 1 = .ok (.istore_n 2, 1) := by decide +kernel
theorem dX6_countAbove_2 : decode cX6_countAbove 2 = .ok (.aload_n 0, 1) := by decide +kernel
theorem dX6_countAbove_3 : decode cX6_countAbove 3 = .ok (.getfield 59, 3) := by decide +kernel
theorem dX6_countAbove_6 : decode cX6_countAbove 6 = .ok (.astore_n 3, 1) := by decide +kernel
theorem dX6_countAbove_7 : decode cX6_countAbove 7 = .ok (.aload_n 3, 1) := by decide +kernel
theorem dX6_countAbove_8 : decode cX6_countAbove 8 = .ok (.arraylength, 1) := by decide +kernel
theorem dX6_countAbove_9 : decode cX6_countAbove 9 = .ok (.istore 4, 2) := by decide +kernel
theorem dX6_countAbove_11 : decode cX6_countAbove 11 = .ok (.iconst 0, 1) := by decide +kernel
theorem dX6_countAbove_12 : decode cX6_countAbove 12 = .ok (.istore 5, 2) := by decide +kernel
theorem dX6_countAbove_14 : decode cX6_countAbove 14 = .ok (.iload 5, 2) := by decide +kernel
theorem dX6_countAbove_16 : decode cX6_countAbove 16 = .ok (.iload 4, 2) := by decide +kernel
theorem dX6_countAbove_18 : decode cX6_countAbove 18 = .ok (.if_icmp .ge 24, 3) := by decide +kernel
theorem dX6_countAbove_21 : decode cX6_countAbove 21 = .ok (.aload_n 3, 1) := by decide +kernel
theorem dX6_countAbove_22 : decode cX6_countAbove 22 = .ok (.iload 5, 2) := by decide +kernel
theorem dX6_countAbove_24 : decode cX6_countAbove 24 = .ok (.iaload, 1) := by decide +kernel
theorem dX6_countAbove_25 : decode cX6_countAbove 25 = .ok (.istore 6, 2) := by decide +kernel
theorem dX6_countAbove_27 : decode cX6_countAbove 27 = .ok (.iload 6, 2) := by decide +kernel
theorem dX6_countAbove_29 : decode cX6_countAbove 29 = .ok (.iload_n 1, 1) := by decide +kernel
theorem dX6_countAbove_30 : decode cX6_countAbove 30 = .ok (.if_icmp .le 6, 3) := by decide +kernel
theorem dX6_countAbove_33 : decode cX6_countAbove 33 = .ok (.iinc 2 1, 3) := by decide +kernel
theorem dX6_countAbove_36 : decode cX6_countAbove 36 = .ok (.iinc 5 1, 3) := by decide +kernel
theorem dX6_countAbove_39 : decode cX6_countAbove 39 = .ok (.goto (-25), 3) := by decide +kernel
theorem dX6_countAbove_42 : decode cX6_countAbove 42 = .ok (.iload_n 2, 1) := by decide +kernel
theorem dX6_countAbove_43 : decode cX6_countAbove 43 = .ok (.ireturn, 1) := by decide +kernel
theorem dX6_firstThatCanBeAdmitted_0 : decode cX6_firstThatCanBeAdmitted 0 = .ok (.aload_n 0, 1) := by decide +kernel
theorem dX6_firstThatCanBeAdmitted_1 : decode cX6_firstThatCanBeAdmitted 1 = .ok (.invokevirtual 121, 3) := by decide +kernel
theorem dX6_firstThatCanBeAdmitted_4 : decode cX6_firstThatCanBeAdmitted 4 = .ok (.aconst_null, 1) := by decide +kernel
theorem dX6_firstThatCanBeAdmitted_5 : decode cX6_firstThatCanBeAdmitted 5 = .ok (.astore_n 1, 1) := by decide +kernel
theorem dX6_firstThatCanBeAdmitted_6 : decode cX6_firstThatCanBeAdmitted 6 = .ok (.iconst (-1), 1) := by decide +kernel
theorem dX6_firstThatCanBeAdmitted_7 : decode cX6_firstThatCanBeAdmitted 7 = .ok (.istore_n 2, 1) := by decide +kernel
theorem dX6_firstThatCanBeAdmitted_8 : decode cX6_firstThatCanBeAdmitted 8 = .ok (.iconst 0, 1) := by decide +kernel
theorem dX6_firstThatCanBeAdmitted_9 : decode cX6_firstThatCanBeAdmitted 9 = .ok (.istore_n 3, 1) := by decide +kernel
theorem dX6_firstThatCanBeAdmitted_10 : decode cX6_firstThatCanBeAdmitted 10 = .ok (.iload_n 3, 1) := by decide +kernel
theorem dX6_firstThatCanBeAdmitted_11 : decode cX6_firstThatCanBeAdmitted 11 = .ok (.aload_n 0, 1) := by decide +kernel
theorem dX6_firstThatCanBeAdmitted_12 : decode cX6_firstThatCanBeAdmitted 12 = .ok (.getfield 59, 3) := by decide +kernel
theorem dX6_firstThatCanBeAdmitted_15 : decode cX6_firstThatCanBeAdmitted 15 = .ok (.arraylength, 1) := by decide +kernel
theorem dX6_firstThatCanBeAdmitted_16 : decode cX6_firstThatCanBeAdmitted 16 = .ok (.if_icmp .ge 50, 3) := by decide +kernel
theorem dX6_firstThatCanBeAdmitted_19 : decode cX6_firstThatCanBeAdmitted 19 = .ok (.aload_n 0, 1) := by decide +kernel
theorem dX6_firstThatCanBeAdmitted_20 : decode cX6_firstThatCanBeAdmitted 20 = .ok (.iload_n 3, 1) := by decide +kernel
theorem dX6_firstThatCanBeAdmitted_21 : decode cX6_firstThatCanBeAdmitted 21 = .ok (.invokevirtual 68, 3) := by decide +kernel
theorem dX6_firstThatCanBeAdmitted_24 : decode cX6_firstThatCanBeAdmitted 24 = .ok (.astore 4, 2) := by decide +kernel
theorem dX6_firstThatCanBeAdmitted_26 : decode cX6_firstThatCanBeAdmitted 26 = .ok (.aload 4, 2) := by decide +kernel
theorem dX6_firstThatCanBeAdmitted_28 : decode cX6_firstThatCanBeAdmitted 28 = .ok (.ifnull 32, 3) := by decide +kernel
theorem dX6_firstThatCanBeAdmitted_31 : decode cX6_firstThatCanBeAdmitted 31 = .ok (.aload_n 0, 1) := by decide +kernel
theorem dX6_firstThatCanBeAdmitted_32 : decode cX6_firstThatCanBeAdmitted 32 = .ok (.getfield 59, 3) := by decide +kernel
theorem dX6_firstThatCanBeAdmitted_35 : decode cX6_firstThatCanBeAdmitted 35 = .ok (.iload_n 3, 1) := by decide +kernel
theorem dX6_firstThatCanBeAdmitted_36 : decode cX6_firstThatCanBeAdmitted 36 = .ok (.iaload, 1) := by decide +kernel
theorem dX6_firstThatCanBeAdmitted_37 : decode cX6_firstThatCanBeAdmitted 37 = .ok (.iload_n 2, 1) := by decide +kernel
theorem dX6_firstThatCanBeAdmitted_38 : decode cX6_firstThatCanBeAdmitted 38 = .ok (.if_icmp .le 22, 3) := by decide +kernel
theorem dX6_firstThatCanBeAdmitted_41 : decode cX6_firstThatCanBeAdmitted 41 = .ok (.aload_n 0, 1) := by decide +kernel
theorem dX6_firstThatCanBeAdmitted_42 : decode cX6_firstThatCanBeAdmitted 42 = .ok (.aload 4, 2) := by decide +kernel
theorem dX6_firstThatCanBeAdmitted_44 : decode cX6_firstThatCanBeAdmitted 44 = .ok (.invokevirtual 142, 3) := by decide +kernel
theorem dX6_firstThatCanBeAdmitted_47 : decode cX6_firstThatCanBeAdmitted 47 = .ok (.ifCond .eq 13, 3) := by decide +kernel
theorem dX6_firstThatCanBeAdmitted_50 : decode cX6_firstThatCanBeAdmitted 50 = .ok (.aload 4, 2) := by decide +kernel
theorem dX6_firstThatCanBeAdmitted_52 : decode cX6_firstThatCanBeAdmitted 52 = .ok (.astore_n 1, 1) := by decide +kernel
theorem dX6_firstThatCanBeAdmitted_53 : decode cX6_firstThatCanBeAdmitted 53 = .ok (.aload_n 0, 1) := by decide +kernel
theorem dX6_firstThatCanBeAdmitted_54 : decode cX6_firstThatCanBeAdmitted 54 = .ok (.getfield 59, 3) := by decide +kernel
theorem dX6_firstThatCanBeAdmitted_57 : decode cX6_firstThatCanBeAdmitted 57 = .ok (.iload_n 3, 1) := by decide +kernel
theorem dX6_firstThatCanBeAdmitted_58 : decode cX6_firstThatCanBeAdmitted 58 = .ok (.iaload, 1) := by decide +kernel
theorem dX6_firstThatCanBeAdmitted_59 : decode cX6_firstThatCanBeAdmitted 59 = .ok (.istore_n 2, 1) := by decide +kernel
theorem dX6_firstThatCanBeAdmitted_60 : decode cX6_firstThatCanBeAdmitted 60 = .ok (.iinc 3 1, 3) := by decide +kernel
theorem dX6_firstThatCanBeAdmitted_63 : decode cX6_firstThatCanBeAdmitted 63 = .ok (.goto (-53), 3) := by decide +kernel
theorem dX6_firstThatCanBeAdmitted_66 : decode cX6_firstThatCanBeAdmitted 66 = .ok (.aload_n 1, 1) := by decide +kernel
theorem dX6_firstThatCanBeAdmitted_67 : decode cX6_firstThatCanBeAdmitted 67 = .ok (.areturn, 1) := by decide +kernel
theorem dX6_canBeAdmitted_0 : decode cX6_canBeAdmitted 0 = .ok (.aload_n 1, 1) := by decide +kernel
theorem dX6_canBeAdmitted_1 : decode cX6_canBeAdmitted 1 = .ok (.getfield 93, 3) := by decide +kernel
theorem dX6_canBeAdmitted_4 : decode cX6_canBeAdmitted 4 = .ok (.lconst 0, 1) := by decide +kernel
theorem dX6_canBeAdmitted_5 : decode cX6_canBeAdmitted 5 = .ok (.lcmp, 1) := by decide +kernel
theorem dX6_canBeAdmitted_6 : decode cX6_canBeAdmitted 6 = .ok (.ifCond .eq 19, 3) := by decide +kernel
theorem dX6_canBeAdmitted_9 : decode cX6_canBeAdmitted 9 = .ok (.aload_n 0, 1) := by decide +kernel
theorem dX6_canBeAdmitted_10 : decode cX6_canBeAdmitted 10 = .ok (.aload_n 1, 1) := by decide +kernel
theorem dX6_canBeAdmitted_11 : decode cX6_canBeAdmitted 11 = .ok (.getfield 93, 3) := by decide +kernel
theorem dX6_canBeAdmitted_14 : decode cX6_canBeAdmitted 14 = .ok (.aload_n 1, 1) := by decide +kernel
theorem dX6_canBeAdmitted_15 : decode cX6_canBeAdmitted 15 = .ok (.invokevirtual 110, 3) := by decide +kernel
theorem dX6_canBeAdmitted_18 : decode cX6_canBeAdmitted 18 = .ok (.ifCond .eq 7, 3) := by decide +kernel
theorem dX6_canBeAdmitted_21 : decode cX6_canBeAdmitted 21 = .ok (.iconst 1, 1) := by decide +kernel
theorem dX6_canBeAdmitted_22 : decode cX6_canBeAdmitted 22 = .ok (.goto 4, 3) := by decide +kernel
theorem dX6_canBeAdmitted_25 : decode cX6_canBeAdmitted 25 = .ok (.iconst 0, 1) := by decide +kernel
theorem dX6_canBeAdmitted_26 : decode cX6_canBeAdmitted 26 = .ok (.ireturn, 1) := by decide +kernel
theorem dX6_addEducator_0 : decode cX6_addEducator 0 = .ok (.iconst 0, 1) := by decide +kernel
theorem dX6_addEducator_1 : decode cX6_addEducator 1 = .ok (.istore_n 1, 1) := by decide +kernel
theorem dX6_addEducator_2 : decode cX6_addEducator 2 = .ok (.iload_n 1, 1) := by decide +kernel
theorem dX6_addEducator_3 : decode cX6_addEducator 3 = .ok (.aload_n 0, 1) := by decide +kernel
theorem dX6_addEducator_4 : decode cX6_addEducator 4 = .ok (.getfield 17, 3) := by decide +kernel
theorem dX6_addEducator_7 : decode cX6_addEducator 7 = .ok (.arraylength, 1) := by decide +kernel
theorem dX6_addEducator_8 : decode cX6_addEducator 8 = .ok (.if_icmp .ge 33, 3) := by decide +kernel
theorem dX6_addEducator_11 : decode cX6_addEducator 11 = .ok (.aload_n 0, 1) := by decide +kernel
theorem dX6_addEducator_12 : decode cX6_addEducator 12 = .ok (.getfield 17, 3) := by decide +kernel
theorem dX6_addEducator_15 : decode cX6_addEducator 15 = .ok (.iload_n 1, 1) := by decide +kernel
theorem dX6_addEducator_16 : decode cX6_addEducator 16 = .ok (.aaload, 1) := by decide +kernel
theorem dX6_addEducator_17 : decode cX6_addEducator 17 = .ok (.ifnonnull 18, 3) := by decide +kernel
theorem dX6_addEducator_20 : decode cX6_addEducator 20 = .ok (.aload_n 0, 1) := by decide +kernel
theorem dX6_addEducator_21 : decode cX6_addEducator 21 = .ok (.getfield 17, 3) := by decide +kernel
theorem dX6_addEducator_24 : decode cX6_addEducator 24 = .ok (.iload_n 1, 1) := by decide +kernel
theorem dX6_addEducator_25 : decode cX6_addEducator 25 = .ok (.new 15, 3) := by decide +kernel
theorem dX6_addEducator_28 : decode cX6_addEducator 28 = .ok (.dup, 1) := by decide +kernel
theorem dX6_addEducator_29 : decode cX6_addEducator 29 = .ok (.invokespecial 146, 3) := by decide +kernel
theorem dX6_addEducator_32 : decode cX6_addEducator 32 = .ok (.aastore, 1) := by decide +kernel
theorem dX6_addEducator_33 : decode cX6_addEducator 33 = .ok (.iload_n 1, 1) := by decide +kernel
theorem dX6_addEducator_34 : decode cX6_addEducator 34 = .ok (.ireturn, 1) := by decide +kernel
theorem dX6_addEducator_35 : decode cX6_addEducator 35 = .ok (.iinc 1 1, 3) := by decide +kernel
theorem dX6_addEducator_38 : decode cX6_addEducator 38 = .ok (.goto (-36), 3) := by decide +kernel
theorem dX6_addEducator_41 : decode cX6_addEducator 41 = .ok (.bipush (-3), 2) := by decide +kernel
theorem dX6_addEducator_43 : decode cX6_addEducator 43 = .ok (.ireturn, 1) := by decide +kernel
theorem dX6_work_0 : decode cX6_work 0 = .ok (.aload_n 0, 1) := by decide +kernel
theorem dX6_work_1 : decode cX6_work 1 = .ok (.iload_n 1, 1) := by decide +kernel
theorem dX6_work_2 : decode cX6_work 2 = .ok (.invokevirtual 147, 3) := by decide +kernel
theorem dX6_work_5 : decode cX6_work 5 = .ok (.astore 5, 2) := by decide +kernel
theorem dX6_work_7 : decode cX6_work 7 = .ok (.aload 5, 2) := by decide +kernel
theorem dX6_work_9 : decode cX6_work 9 = .ok (.ifnull 19, 3) := by decide +kernel
theorem dX6_work_12 : decode cX6_work 12 = .ok (.iload_n 2, 1) := by decide +kernel
theorem dX6_work_13 : decode cX6_work 13 = .ok (.invokestatic 85, 3) := by decide +kernel
theorem dX6_work_16 : decode cX6_work 16 = .ok (.ifCond .eq 12, 3) := by decide +kernel
theorem dX6_work_19 : decode cX6_work 19 = .ok (.iload_n 3, 1) := by decide +kernel
theorem dX6_work_20 : decode cX6_work 20 = .ok (.iload 4, 2) := by decide +kernel
theorem dX6_work_22 : decode cX6_work 22 = .ok (.invokestatic 89, 3) := by decide +kernel
theorem dX6_work_25 : decode cX6_work 25 = .ok (.ifCond .ne 5, 3) := by decide +kernel
theorem dX6_work_28 : decode cX6_work 28 = .ok (.iconst (-1), 1) := by decide +kernel
theorem dX6_work_29 : decode cX6_work 29 = .ok (.ireturn, 1) := by decide +kernel
theorem dX6_work_30 : decode cX6_work 30 = .ok (.aload 5, 2) := by decide +kernel
theorem dX6_work_32 : decode cX6_work 32 = .ok (.aload 5, 2) := by decide +kernel
theorem dX6_work_34 : decode cX6_work 34 = .ok (.getfield 153, 3) := by decide +kernel
theorem dX6_work_37 : decode cX6_work 37 = .ok (.iload_n 2, 1) := by decide +kernel
theorem dX6_work_38 : decode cX6_work 38 = .ok (.iload_n 3, 1) := by decide +kernel
theorem dX6_work_39 : decode cX6_work 39 = .ok (.iload 4, 2) := by decide +kernel
theorem dX6_work_41 : decode cX6_work 41 = .ok (.invokestatic 97, 3) := by decide +kernel
theorem dX6_work_44 : decode cX6_work 44 = .ok (.putfield 153, 3) := by decide +kernel
theorem dX6_work_47 : decode cX6_work 47 = .ok (.aload 5, 2) := by decide +kernel
theorem dX6_work_49 : decode cX6_work 49 = .ok (.getfield 153, 3) := by decide +kernel
theorem dX6_work_52 : decode cX6_work 52 = .ok (.invokestatic 156, 3) := by decide +kernel
theorem dX6_work_55 : decode cX6_work 55 = .ok (.ireturn, 1) := by decide +kernel
theorem dX6_setHoliday_0 : decode cX6_setHoliday 0 = .ok (.aload_n 0, 1) := by decide +kernel
theorem dX6_setHoliday_1 : decode cX6_setHoliday 1 = .ok (.iload_n 1, 1) := by decide +kernel
theorem dX6_setHoliday_2 : decode cX6_setHoliday 2 = .ok (.invokevirtual 147, 3) := by decide +kernel
theorem dX6_setHoliday_5 : decode cX6_setHoliday 5 = .ok (.astore 4, 2) := by decide +kernel
theorem dX6_setHoliday_7 : decode cX6_setHoliday 7 = .ok (.aload 4, 2) := by decide +kernel
theorem dX6_setHoliday_9 : decode cX6_setHoliday 9 = .ok (.ifnull 10, 3) := by decide +kernel
theorem dX6_setHoliday_12 : decode cX6_setHoliday 12 = .ok (.iload_n 2, 1) := by decide +kernel
theorem dX6_setHoliday_13 : decode cX6_setHoliday 13 = .ok (.invokestatic 162, 3) := by decide +kernel
theorem dX6_setHoliday_16 : decode cX6_setHoliday 16 = .ok (.ifCond .ne 5, 3) := by decide +kernel
theorem dX6_setHoliday_19 : decode cX6_setHoliday 19 = .ok (.iconst (-1), 1) := by decide +kernel
theorem dX6_setHoliday_20 : decode cX6_setHoliday 20 = .ok (.ireturn, 1) := by decide +kernel
theorem dX6_setHoliday_21 : decode cX6_setHoliday 21 = .ok (.lconst 1, 1) := by decide +kernel
theorem dX6_setHoliday_22 : decode cX6_setHoliday 22 = .ok (.iload_n 2, 1) := by decide +kernel
theorem dX6_setHoliday_23 : decode cX6_setHoliday 23 = .ok (.lshl, 1) := by decide +kernel
theorem dX6_setHoliday_24 : decode cX6_setHoliday 24 = .ok (.lstore 5, 2) := by decide +kernel
theorem dX6_setHoliday_26 : decode cX6_setHoliday 26 = .ok (.aload 4, 2) := by decide +kernel
theorem dX6_setHoliday_28 : decode cX6_setHoliday 28 = .ok (.iload_n 3, 1) := by decide +kernel
theorem dX6_setHoliday_29 : decode cX6_setHoliday 29 = .ok (.ifCond .eq 14, 3) := by decide +kernel
theorem dX6_setHoliday_32 : decode cX6_setHoliday 32 = .ok (.aload 4, 2) := by decide +kernel
theorem dX6_setHoliday_34 : decode cX6_setHoliday 34 = .ok (.getfield 165, 3) := by decide +kernel
theorem dX6_setHoliday_37 : decode cX6_setHoliday 37 = .ok (.lload 5, 2) := by decide +kernel
theorem dX6_setHoliday_39 : decode cX6_setHoliday 39 = .ok (.lor, 1) := by decide +kernel
theorem dX6_setHoliday_40 : decode cX6_setHoliday 40 = .ok (.goto 15, 3) := by decide +kernel
theorem dX6_setHoliday_43 : decode cX6_setHoliday 43 = .ok (.aload 4, 2) := by decide +kernel
theorem dX6_setHoliday_45 : decode cX6_setHoliday 45 = .ok (.getfield 165, 3) := by decide +kernel
theorem dX6_setHoliday_48 : decode cX6_setHoliday 48 = .ok (.lload 5, 2) := by decide +kernel
theorem dX6_setHoliday_50 : decode cX6_setHoliday 50 = .ok (.ldc2_w 108, 3) := by decide +kernel
theorem dX6_setHoliday_53 : decode cX6_setHoliday 53 = .ok (.lxor, 1) := by decide +kernel
theorem dX6_setHoliday_54 : decode cX6_setHoliday 54 = .ok (.land, 1) := by decide +kernel
theorem dX6_setHoliday_55 : decode cX6_setHoliday 55 = .ok (.putfield 165, 3) := by decide +kernel
theorem dX6_setHoliday_58 : decode cX6_setHoliday 58 = .ok (.aload 4, 2) := by decide +kernel
theorem dX6_setHoliday_60 : decode cX6_setHoliday 60 = .ok (.getfield 165, 3) := by decide +kernel
theorem dX6_setHoliday_63 : decode cX6_setHoliday 63 = .ok (.invokestatic 156, 3) := by decide +kernel
theorem dX6_setHoliday_66 : decode cX6_setHoliday 66 = .ok (.ireturn, 1) := by decide +kernel
theorem dX6_setRatio_0 : decode cX6_setRatio 0 = .ok (.iload_n 1, 1) := by decide +kernel
theorem dX6_setRatio_1 : decode cX6_setRatio 1 = .ok (.invokestatic 168, 3) := by decide +kernel
theorem dX6_setRatio_4 : decode cX6_setRatio 4 = .ok (.ifCond .eq 14, 3) := by decide +kernel
theorem dX6_setRatio_7 : decode cX6_setRatio 7 = .ok (.iload_n 2, 1) := by decide +kernel
theorem dX6_setRatio_8 : decode cX6_setRatio 8 = .ok (.iconst 1, 1) := by decide +kernel
theorem dX6_setRatio_9 : decode cX6_setRatio 9 = .ok (.if_icmp .lt 9, 3) := by decide +kernel
theorem dX6_setRatio_12 : decode cX6_setRatio 12 = .ok (.iload_n 2, 1) := by decide +kernel
theorem dX6_setRatio_13 : decode cX6_setRatio 13 = .ok (.bipush 20, 2) := by decide +kernel
theorem dX6_setRatio_15 : decode cX6_setRatio 15 = .ok (.if_icmp .le 5, 3) := by decide +kernel
theorem dX6_setRatio_18 : decode cX6_setRatio 18 = .ok (.iconst (-1), 1) := by decide +kernel
theorem dX6_setRatio_19 : decode cX6_setRatio 19 = .ok (.ireturn, 1) := by decide +kernel
theorem dX6_setRatio_20 : decode cX6_setRatio 20 = .ok (.aload_n 0, 1) := by decide +kernel
theorem dX6_setRatio_21 : decode cX6_setRatio 21 = .ok (.getfield 21, 3) := by decide +kernel
theorem dX6_setRatio_24 : decode cX6_setRatio 24 = .ok (.iload_n 1, 1) := by decide +kernel
theorem dX6_setRatio_25 : decode cX6_setRatio 25 = .ok (.iaload, 1) := by decide +kernel
theorem dX6_setRatio_26 : decode cX6_setRatio 26 = .ok (.istore_n 3, 1) := by decide +kernel
theorem dX6_setRatio_27 : decode cX6_setRatio 27 = .ok (.aload_n 0, 1) := by decide +kernel
theorem dX6_setRatio_28 : decode cX6_setRatio 28 = .ok (.getfield 21, 3) := by decide +kernel
theorem dX6_setRatio_31 : decode cX6_setRatio 31 = .ok (.iload_n 1, 1) := by decide +kernel
theorem dX6_setRatio_32 : decode cX6_setRatio 32 = .ok (.iload_n 2, 1) := by decide +kernel
theorem dX6_setRatio_33 : decode cX6_setRatio 33 = .ok (.iastore, 1) := by decide +kernel
theorem dX6_setRatio_34 : decode cX6_setRatio 34 = .ok (.iload_n 3, 1) := by decide +kernel
theorem dX6_setRatio_35 : decode cX6_setRatio 35 = .ok (.ireturn, 1) := by decide +kernel
theorem dX6_setRoomLimit_0 : decode cX6_setRoomLimit 0 = .ok (.iload_n 1, 1) := by decide +kernel
theorem dX6_setRoomLimit_1 : decode cX6_setRoomLimit 1 = .ok (.iconst 1, 1) := by decide +kernel
theorem dX6_setRoomLimit_2 : decode cX6_setRoomLimit 2 = .ok (.if_icmp .lt 9, 3) := by decide +kernel
theorem dX6_setRoomLimit_5 : decode cX6_setRoomLimit 5 = .ok (.iload_n 1, 1) := by decide +kernel
theorem dX6_setRoomLimit_6 : decode cX6_setRoomLimit 6 = .ok (.bipush 24, 2) := by decide +kernel
theorem dX6_setRoomLimit_8 : decode cX6_setRoomLimit 8 = .ok (.if_icmp .le 5, 3) := by decide +kernel
theorem dX6_setRoomLimit_11 : decode cX6_setRoomLimit 11 = .ok (.iconst (-1), 1) := by decide +kernel
theorem dX6_setRoomLimit_12 : decode cX6_setRoomLimit 12 = .ok (.ireturn, 1) := by decide +kernel
theorem dX6_setRoomLimit_13 : decode cX6_setRoomLimit 13 = .ok (.aload_n 0, 1) := by decide +kernel
theorem dX6_setRoomLimit_14 : decode cX6_setRoomLimit 14 = .ok (.getfield 28, 3) := by decide +kernel
theorem dX6_setRoomLimit_17 : decode cX6_setRoomLimit 17 = .ok (.istore_n 2, 1) := by decide +kernel
theorem dX6_setRoomLimit_18 : decode cX6_setRoomLimit 18 = .ok (.aload_n 0, 1) := by decide +kernel
theorem dX6_setRoomLimit_19 : decode cX6_setRoomLimit 19 = .ok (.iload_n 1, 1) := by decide +kernel
theorem dX6_setRoomLimit_20 : decode cX6_setRoomLimit 20 = .ok (.putfield 28, 3) := by decide +kernel
theorem dX6_setRoomLimit_23 : decode cX6_setRoomLimit 23 = .ok (.iload_n 2, 1) := by decide +kernel
theorem dX6_setRoomLimit_24 : decode cX6_setRoomLimit 24 = .ok (.ireturn, 1) := by decide +kernel
theorem dX6_educatorAt_0 : decode cX6_educatorAt 0 = .ok (.iload_n 1, 1) := by decide +kernel
theorem dX6_educatorAt_1 : decode cX6_educatorAt 1 = .ok (.ifCond .lt 12, 3) := by decide +kernel
theorem dX6_educatorAt_4 : decode cX6_educatorAt 4 = .ok (.iload_n 1, 1) := by decide +kernel
theorem dX6_educatorAt_5 : decode cX6_educatorAt 5 = .ok (.aload_n 0, 1) := by decide +kernel
theorem dX6_educatorAt_6 : decode cX6_educatorAt 6 = .ok (.getfield 17, 3) := by decide +kernel
theorem dX6_educatorAt_9 : decode cX6_educatorAt 9 = .ok (.arraylength, 1) := by decide +kernel
theorem dX6_educatorAt_10 : decode cX6_educatorAt 10 = .ok (.if_icmp .lt 5, 3) := by decide +kernel
theorem dX6_educatorAt_13 : decode cX6_educatorAt 13 = .ok (.aconst_null, 1) := by decide +kernel
theorem dX6_educatorAt_14 : decode cX6_educatorAt 14 = .ok (.areturn, 1) := by decide +kernel
theorem dX6_educatorAt_15 : decode cX6_educatorAt 15 = .ok (.aload_n 0, 1) := by decide +kernel
theorem dX6_educatorAt_16 : decode cX6_educatorAt 16 = .ok (.getfield 17, 3) := by decide +kernel
theorem dX6_educatorAt_19 : decode cX6_educatorAt 19 = .ok (.iload_n 1, 1) := by decide +kernel
theorem dX6_educatorAt_20 : decode cX6_educatorAt 20 = .ok (.aaload, 1) := by decide +kernel
theorem dX6_educatorAt_21 : decode cX6_educatorAt 21 = .ok (.areturn, 1) := by decide +kernel
theorem dX6_present_0 : decode cX6_present 0 = .ok (.iload_n 1, 1) := by decide +kernel
theorem dX6_present_1 : decode cX6_present 1 = .ok (.invokestatic 85, 3) := by decide +kernel
theorem dX6_present_4 : decode cX6_present 4 = .ok (.ifCond .eq 10, 3) := by decide +kernel
theorem dX6_present_7 : decode cX6_present 7 = .ok (.iload_n 2, 1) := by decide +kernel
theorem dX6_present_8 : decode cX6_present 8 = .ok (.invokestatic 171, 3) := by decide +kernel
theorem dX6_present_11 : decode cX6_present 11 = .ok (.ifCond .ne 5, 3) := by decide +kernel
theorem dX6_present_14 : decode cX6_present 14 = .ok (.iconst (-1), 1) := by decide +kernel
theorem dX6_present_15 : decode cX6_present 15 = .ok (.ireturn, 1) := by decide +kernel
theorem dX6_present_16 : decode cX6_present 16 = .ok (.aload_n 0, 1) := by decide +kernel
theorem dX6_present_17 : decode cX6_present 17 = .ok (.iload_n 1, 1) := by decide +kernel
theorem dX6_present_18 : decode cX6_present 18 = .ok (.iload_n 2, 1) := by decide +kernel
theorem dX6_present_19 : decode cX6_present 19 = .ok (.invokestatic 174, 3) := by decide +kernel
theorem dX6_present_22 : decode cX6_present 22 = .ok (.invokevirtual 178, 3) := by decide +kernel
theorem dX6_present_25 : decode cX6_present 25 = .ok (.aload_n 0, 1) := by decide +kernel
theorem dX6_present_26 : decode cX6_present 26 = .ok (.getfield 55, 3) := by decide +kernel
theorem dX6_present_29 : decode cX6_present 29 = .ok (.invokevirtual 182, 3) := by decide +kernel
theorem dX6_present_32 : decode cX6_present 32 = .ok (.ireturn, 1) := by decide +kernel
theorem dX6_need_0 : decode cX6_need 0 = .ok (.iload_n 1, 1) := by decide +kernel
theorem dX6_need_1 : decode cX6_need 1 = .ok (.invokestatic 85, 3) := by decide +kernel
theorem dX6_need_4 : decode cX6_need 4 = .ok (.ifCond .eq 10, 3) := by decide +kernel
theorem dX6_need_7 : decode cX6_need 7 = .ok (.iload_n 2, 1) := by decide +kernel
theorem dX6_need_8 : decode cX6_need 8 = .ok (.invokestatic 171, 3) := by decide +kernel
theorem dX6_need_11 : decode cX6_need 11 = .ok (.ifCond .ne 5, 3) := by decide +kernel
theorem dX6_need_14 : decode cX6_need 14 = .ok (.iconst (-1), 1) := by decide +kernel
theorem dX6_need_15 : decode cX6_need 15 = .ok (.ireturn, 1) := by decide +kernel
theorem dX6_need_16 : decode cX6_need 16 = .ok (.aload_n 0, 1) := by decide +kernel
theorem dX6_need_17 : decode cX6_need 17 = .ok (.iload_n 1, 1) := by decide +kernel
theorem dX6_need_18 : decode cX6_need 18 = .ok (.iload_n 2, 1) := by decide +kernel
theorem dX6_need_19 : decode cX6_need 19 = .ok (.invokestatic 174, 3) := by decide +kernel
theorem dX6_need_22 : decode cX6_need 22 = .ok (.invokevirtual 185, 3) := by decide +kernel
theorem dX6_need_25 : decode cX6_need 25 = .ok (.ireturn, 1) := by decide +kernel
theorem dX6_staff_0 : decode cX6_staff 0 = .ok (.iload_n 1, 1) := by decide +kernel
theorem dX6_staff_1 : decode cX6_staff 1 = .ok (.invokestatic 85, 3) := by decide +kernel
theorem dX6_staff_4 : decode cX6_staff 4 = .ok (.ifCond .eq 10, 3) := by decide +kernel
theorem dX6_staff_7 : decode cX6_staff 7 = .ok (.iload_n 2, 1) := by decide +kernel
theorem dX6_staff_8 : decode cX6_staff 8 = .ok (.invokestatic 171, 3) := by decide +kernel
theorem dX6_staff_11 : decode cX6_staff 11 = .ok (.ifCond .ne 5, 3) := by decide +kernel
theorem dX6_staff_14 : decode cX6_staff 14 = .ok (.iconst (-1), 1) := by decide +kernel
theorem dX6_staff_15 : decode cX6_staff 15 = .ok (.ireturn, 1) := by decide +kernel
theorem dX6_staff_16 : decode cX6_staff 16 = .ok (.aload_n 0, 1) := by decide +kernel
theorem dX6_staff_17 : decode cX6_staff 17 = .ok (.iload_n 1, 1) := by decide +kernel
theorem dX6_staff_18 : decode cX6_staff 18 = .ok (.iload_n 2, 1) := by decide +kernel
theorem dX6_staff_19 : decode cX6_staff 19 = .ok (.invokestatic 174, 3) := by decide +kernel
theorem dX6_staff_22 : decode cX6_staff 22 = .ok (.invokevirtual 188, 3) := by decide +kernel
theorem dX6_staff_25 : decode cX6_staff 25 = .ok (.ireturn, 1) := by decide +kernel
theorem dX6_unsafeHours_0 : decode cX6_unsafeHours 0 = .ok (.iconst 0, 1) := by decide +kernel
theorem dX6_unsafeHours_1 : decode cX6_unsafeHours 1 = .ok (.istore_n 1, 1) := by decide +kernel
theorem dX6_unsafeHours_2 : decode cX6_unsafeHours 2 = .ok (.iconst 0, 1) := by decide +kernel
theorem dX6_unsafeHours_3 : decode cX6_unsafeHours 3 = .ok (.istore_n 2, 1) := by decide +kernel
theorem dX6_unsafeHours_4 : decode cX6_unsafeHours 4 = .ok (.iload_n 2, 1) := by decide +kernel
theorem dX6_unsafeHours_5 : decode cX6_unsafeHours 5 = .ok (.bipush 50, 2) := by decide +kernel
theorem dX6_unsafeHours_7 : decode cX6_unsafeHours 7 = .ok (.if_icmp .ge 25, 3) := by decide +kernel
theorem dX6_unsafeHours_10 : decode cX6_unsafeHours 10 = .ok (.aload_n 0, 1) := by decide +kernel
theorem dX6_unsafeHours_11 : decode cX6_unsafeHours 11 = .ok (.iload_n 2, 1) := by decide +kernel
theorem dX6_unsafeHours_12 : decode cX6_unsafeHours 12 = .ok (.invokevirtual 178, 3) := by decide +kernel
theorem dX6_unsafeHours_15 : decode cX6_unsafeHours 15 = .ok (.aload_n 0, 1) := by decide +kernel
theorem dX6_unsafeHours_16 : decode cX6_unsafeHours 16 = .ok (.iload_n 2, 1) := by decide +kernel
theorem dX6_unsafeHours_17 : decode cX6_unsafeHours 17 = .ok (.invokevirtual 191, 3) := by decide +kernel
theorem dX6_unsafeHours_20 : decode cX6_unsafeHours 20 = .ok (.ifCond .ne 6, 3) := by decide +kernel
theorem dX6_unsafeHours_23 : decode cX6_unsafeHours 23 = .ok (.iinc 1 1, 3) := by decide +kernel
theorem dX6_unsafeHours_26 : decode cX6_unsafeHours 26 = .ok (.iinc 2 1, 3) := by decide +kernel
theorem dX6_unsafeHours_29 : decode cX6_unsafeHours 29 = .ok (.goto (-25), 3) := by decide +kernel
theorem dX6_unsafeHours_32 : decode cX6_unsafeHours 32 = .ok (.iload_n 1, 1) := by decide +kernel
theorem dX6_unsafeHours_33 : decode cX6_unsafeHours 33 = .ok (.ireturn, 1) := by decide +kernel
theorem dX6_load_0 : decode cX6_load 0 = .ok (.iload_n 1, 1) := by decide +kernel
theorem dX6_load_1 : decode cX6_load 1 = .ok (.invokestatic 85, 3) := by decide +kernel
theorem dX6_load_4 : decode cX6_load 4 = .ok (.ifCond .ne 7, 3) := by decide +kernel
theorem dX6_load_7 : decode cX6_load 7 = .ok (.ldc2_w 194, 3) := by decide +kernel
theorem dX6_load_10 : decode cX6_load 10 = .ok (.dreturn, 1) := by decide +kernel
theorem dX6_load_11 : decode cX6_load 11 = .ok (.iconst 0, 1) := by decide +kernel
theorem dX6_load_12 : decode cX6_load 12 = .ok (.istore_n 2, 1) := by decide +kernel
theorem dX6_load_13 : decode cX6_load 13 = .ok (.iconst 0, 1) := by decide +kernel
theorem dX6_load_14 : decode cX6_load 14 = .ok (.istore_n 3, 1) := by decide +kernel
theorem dX6_load_15 : decode cX6_load 15 = .ok (.iconst 0, 1) := by decide +kernel
theorem dX6_load_16 : decode cX6_load 16 = .ok (.istore 4, 2) := by decide +kernel
theorem dX6_load_18 : decode cX6_load 18 = .ok (.iload 4, 2) := by decide +kernel
theorem dX6_load_20 : decode cX6_load 20 = .ok (.bipush 10, 2) := by decide +kernel
theorem dX6_load_22 : decode cX6_load 22 = .ok (.if_icmp .ge 29, 3) := by decide +kernel
theorem dX6_load_25 : decode cX6_load 25 = .ok (.iload_n 2, 1) := by decide +kernel
theorem dX6_load_26 : decode cX6_load 26 = .ok (.aload_n 0, 1) := by decide +kernel
theorem dX6_load_27 : decode cX6_load 27 = .ok (.iload_n 1, 1) := by decide +kernel
theorem dX6_load_28 : decode cX6_load 28 = .ok (.iload 4, 2) := by decide +kernel
theorem dX6_load_30 : decode cX6_load 30 = .ok (.invokevirtual 196, 3) := by decide +kernel
theorem dX6_load_33 : decode cX6_load 33 = .ok (.iadd, 1) := by decide +kernel
theorem dX6_load_34 : decode cX6_load 34 = .ok (.istore_n 2, 1) := by decide +kernel
theorem dX6_load_35 : decode cX6_load 35 = .ok (.iload_n 3, 1) := by decide +kernel
theorem dX6_load_36 : decode cX6_load 36 = .ok (.aload_n 0, 1) := by decide +kernel
theorem dX6_load_37 : decode cX6_load 37 = .ok (.iload_n 1, 1) := by decide +kernel
theorem dX6_load_38 : decode cX6_load 38 = .ok (.iload 4, 2) := by decide +kernel
theorem dX6_load_40 : decode cX6_load 40 = .ok (.invokevirtual 199, 3) := by decide +kernel
theorem dX6_load_43 : decode cX6_load 43 = .ok (.iadd, 1) := by decide +kernel
theorem dX6_load_44 : decode cX6_load 44 = .ok (.istore_n 3, 1) := by decide +kernel
theorem dX6_load_45 : decode cX6_load 45 = .ok (.iinc 4 1, 3) := by decide +kernel
theorem dX6_load_48 : decode cX6_load 48 = .ok (.goto (-30), 3) := by decide +kernel
theorem dX6_load_51 : decode cX6_load 51 = .ok (.iload_n 3, 1) := by decide +kernel
theorem dX6_load_52 : decode cX6_load 52 = .ok (.ifCond .ne 5, 3) := by decide +kernel
theorem dX6_load_55 : decode cX6_load 55 = .ok (.dconst 0, 1) := by decide +kernel
theorem dX6_load_56 : decode cX6_load 56 = .ok (.dreturn, 1) := by decide +kernel
theorem dX6_load_57 : decode cX6_load 57 = .ok (.iload_n 2, 1) := by decide +kernel
theorem dX6_load_58 : decode cX6_load 58 = .ok (.i2d, 1) := by decide +kernel
theorem dX6_load_59 : decode cX6_load 59 = .ok (.iload_n 3, 1) := by decide +kernel
theorem dX6_load_60 : decode cX6_load 60 = .ok (.i2d, 1) := by decide +kernel
theorem dX6_load_61 : decode cX6_load 61 = .ok (.ddiv, 1) := by decide +kernel
theorem dX6_load_62 : decode cX6_load 62 = .ok (.dreturn, 1) := by decide +kernel
theorem dX6_countHeads_0 : decode cX6_countHeads 0 = .ok (.aload_n 0, 1) := by decide +kernel
theorem dX6_countHeads_1 : decode cX6_countHeads 1 = .ok (.getfield 55, 3) := by decide +kernel
theorem dX6_countHeads_4 : decode cX6_countHeads 4 = .ok (.invokevirtual 202, 3) := by decide +kernel
theorem dX6_countHeads_7 : decode cX6_countHeads 7 = .ok (.aload_n 0, 1) := by decide +kernel
theorem dX6_countHeads_8 : decode cX6_countHeads 8 = .ok (.getfield 11, 3) := by decide +kernel
theorem dX6_countHeads_11 : decode cX6_countHeads 11 = .ok (.astore_n 2, 1) := by decide +kernel
theorem dX6_countHeads_12 : decode cX6_countHeads 12 = .ok (.aload_n 2, 1) := by decide +kernel
theorem dX6_countHeads_13 : decode cX6_countHeads 13 = .ok (.arraylength, 1) := by decide +kernel
theorem dX6_countHeads_14 : decode cX6_countHeads 14 = .ok (.istore_n 3, 1) := by decide +kernel
theorem dX6_countHeads_15 : decode cX6_countHeads 15 = .ok (.iconst 0, 1) := by decide +kernel
theorem dX6_countHeads_16 : decode cX6_countHeads 16 = .ok (.istore 4, 2) := by decide +kernel
theorem dX6_countHeads_18 : decode cX6_countHeads 18 = .ok (.iload 4, 2) := by decide +kernel
theorem dX6_countHeads_20 : decode cX6_countHeads 20 = .ok (.iload_n 3, 1) := by decide +kernel
theorem dX6_countHeads_21 : decode cX6_countHeads 21 = .ok (.if_icmp .ge 52, 3) := by decide +kernel
theorem dX6_countHeads_24 : decode cX6_countHeads 24 = .ok (.aload_n 2, 1) := by decide +kernel
theorem dX6_countHeads_25 : decode cX6_countHeads 25 = .ok (.iload 4, 2) := by decide +kernel
theorem dX6_countHeads_27 : decode cX6_countHeads 27 = .ok (.aaload, 1) := by decide +kernel
theorem dX6_countHeads_28 : decode cX6_countHeads 28 = .ok (.astore 5, 2) := by decide +kernel
theorem dX6_countHeads_30 : decode cX6_countHeads 30 = .ok (.aload 5, 2) := by decide +kernel
theorem dX6_countHeads_32 : decode cX6_countHeads 32 = .ok (.ifnull 35, 3) := by decide +kernel
theorem dX6_countHeads_35 : decode cX6_countHeads 35 = .ok (.aload 5, 2) := by decide +kernel
theorem dX6_countHeads_37 : decode cX6_countHeads 37 = .ok (.getfield 78, 3) := by decide +kernel
theorem dX6_countHeads_40 : decode cX6_countHeads 40 = .ok (.ifCond .eq 27, 3) := by decide +kernel
theorem dX6_countHeads_43 : decode cX6_countHeads 43 = .ok (.aload 5, 2) := by decide +kernel
theorem dX6_countHeads_45 : decode cX6_countHeads 45 = .ok (.getfield 93, 3) := by decide +kernel
theorem dX6_countHeads_48 : decode cX6_countHeads 48 = .ok (.iload_n 1, 1) := by decide +kernel
theorem dX6_countHeads_49 : decode cX6_countHeads 49 = .ok (.invokestatic 205, 3) := by decide +kernel
theorem dX6_countHeads_52 : decode cX6_countHeads 52 = .ok (.ifCond .eq 15, 3) := by decide +kernel
theorem dX6_countHeads_55 : decode cX6_countHeads 55 = .ok (.aload_n 0, 1) := by decide +kernel
theorem dX6_countHeads_56 : decode cX6_countHeads 56 = .ok (.getfield 55, 3) := by decide +kernel
theorem dX6_countHeads_59 : decode cX6_countHeads 59 = .ok (.aload 5, 2) := by decide +kernel
theorem dX6_countHeads_61 : decode cX6_countHeads 61 = .ok (.invokevirtual 209, 3) := by decide +kernel
theorem dX6_countHeads_64 : decode cX6_countHeads 64 = .ok (.invokevirtual 212, 3) := by decide +kernel
theorem dX6_countHeads_67 : decode cX6_countHeads 67 = .ok (.iinc 4 1, 3) := by decide +kernel
theorem dX6_countHeads_70 : decode cX6_countHeads 70 = .ok (.goto (-52), 3) := by decide +kernel
theorem dX6_countHeads_73 : decode cX6_countHeads 73 = .ok (.return_, 1) := by decide +kernel
theorem dX6_needIn_0 : decode cX6_needIn 0 = .ok (.aload_n 0, 1) := by decide +kernel
theorem dX6_needIn_1 : decode cX6_needIn 1 = .ok (.iload_n 1, 1) := by decide +kernel
theorem dX6_needIn_2 : decode cX6_needIn 2 = .ok (.invokevirtual 178, 3) := by decide +kernel
theorem dX6_needIn_5 : decode cX6_needIn 5 = .ok (.aload_n 0, 1) := by decide +kernel
theorem dX6_needIn_6 : decode cX6_needIn 6 = .ok (.getfield 55, 3) := by decide +kernel
theorem dX6_needIn_9 : decode cX6_needIn 9 = .ok (.aload_n 0, 1) := by decide +kernel
theorem dX6_needIn_10 : decode cX6_needIn 10 = .ok (.getfield 21, 3) := by decide +kernel
theorem dX6_needIn_13 : decode cX6_needIn 13 = .ok (.iconst 0, 1) := by decide +kernel
theorem dX6_needIn_14 : decode cX6_needIn 14 = .ok (.iaload, 1) := by decide +kernel
theorem dX6_needIn_15 : decode cX6_needIn 15 = .ok (.aload_n 0, 1) := by decide +kernel
theorem dX6_needIn_16 : decode cX6_needIn 16 = .ok (.getfield 21, 3) := by decide +kernel
theorem dX6_needIn_19 : decode cX6_needIn 19 = .ok (.iconst 1, 1) := by decide +kernel
theorem dX6_needIn_20 : decode cX6_needIn 20 = .ok (.iaload, 1) := by decide +kernel
theorem dX6_needIn_21 : decode cX6_needIn 21 = .ok (.aload_n 0, 1) := by decide +kernel
theorem dX6_needIn_22 : decode cX6_needIn 22 = .ok (.getfield 21, 3) := by decide +kernel
theorem dX6_needIn_25 : decode cX6_needIn 25 = .ok (.iconst 2, 1) := by decide +kernel
theorem dX6_needIn_26 : decode cX6_needIn 26 = .ok (.iaload, 1) := by decide +kernel
theorem dX6_needIn_27 : decode cX6_needIn 27 = .ok (.invokevirtual 215, 3) := by decide +kernel
theorem dX6_needIn_30 : decode cX6_needIn 30 = .ok (.ireturn, 1) := by decide +kernel
theorem dX6_staffIn_0 : decode cX6_staffIn 0 = .ok (.iconst 0, 1) := by decide +kernel
theorem dX6_staffIn_1 : decode cX6_staffIn 1 = .ok (.istore_n 2, 1) := by decide +kernel
theorem dX6_staffIn_2 : decode cX6_staffIn 2 = .ok (.aload_n 0, 1) := by decide +kernel
theorem dX6_staffIn_3 : decode cX6_staffIn 3 = .ok (.getfield 17, 3) := by decide +kernel
theorem dX6_staffIn_6 : decode cX6_staffIn 6 = .ok (.astore_n 3, 1) := by decide +kernel
theorem dX6_staffIn_7 : decode cX6_staffIn 7 = .ok (.aload_n 3, 1) := by decide +kernel
theorem dX6_staffIn_8 : decode cX6_staffIn 8 = .ok (.arraylength, 1) := by decide +kernel
theorem dX6_staffIn_9 : decode cX6_staffIn 9 = .ok (.istore 4, 2) := by decide +kernel
theorem dX6_staffIn_11 : decode cX6_staffIn 11 = .ok (.iconst 0, 1) := by decide +kernel
theorem dX6_staffIn_12 : decode cX6_staffIn 12 = .ok (.istore 5, 2) := by decide +kernel
theorem dX6_staffIn_14 : decode cX6_staffIn 14 = .ok (.iload 5, 2) := by decide +kernel
theorem dX6_staffIn_16 : decode cX6_staffIn 16 = .ok (.iload 4, 2) := by decide +kernel
theorem dX6_staffIn_18 : decode cX6_staffIn 18 = .ok (.if_icmp .ge 35, 3) := by decide +kernel
theorem dX6_staffIn_21 : decode cX6_staffIn 21 = .ok (.aload_n 3, 1) := by decide +kernel
theorem dX6_staffIn_22 : decode cX6_staffIn 22 = .ok (.iload 5, 2) := by decide +kernel
theorem dX6_staffIn_24 : decode cX6_staffIn 24 = .ok (.aaload, 1) := by decide +kernel
theorem dX6_staffIn_25 : decode cX6_staffIn 25 = .ok (.astore 6, 2) := by decide +kernel
theorem dX6_staffIn_27 : decode cX6_staffIn 27 = .ok (.aload 6, 2) := by decide +kernel
theorem dX6_staffIn_29 : decode cX6_staffIn 29 = .ok (.ifnull 18, 3) := by decide +kernel
theorem dX6_staffIn_32 : decode cX6_staffIn 32 = .ok (.aload 6, 2) := by decide +kernel
theorem dX6_staffIn_34 : decode cX6_staffIn 34 = .ok (.getfield 153, 3) := by decide +kernel
theorem dX6_staffIn_37 : decode cX6_staffIn 37 = .ok (.iload_n 1, 1) := by decide +kernel
theorem dX6_staffIn_38 : decode cX6_staffIn 38 = .ok (.invokestatic 205, 3) := by decide +kernel
theorem dX6_staffIn_41 : decode cX6_staffIn 41 = .ok (.ifCond .eq 6, 3) := by decide +kernel
theorem dX6_staffIn_44 : decode cX6_staffIn 44 = .ok (.iinc 2 1, 3) := by decide +kernel
theorem dX6_staffIn_47 : decode cX6_staffIn 47 = .ok (.iinc 5 1, 3) := by decide +kernel
theorem dX6_staffIn_50 : decode cX6_staffIn 50 = .ok (.goto (-36), 3) := by decide +kernel
theorem dX6_staffIn_53 : decode cX6_staffIn 53 = .ok (.iload_n 2, 1) := by decide +kernel
theorem dX6_staffIn_54 : decode cX6_staffIn 54 = .ok (.ireturn, 1) := by decide +kernel
theorem dX6_areHeadsSafe_0 : decode cX6_areHeadsSafe 0 = .ok (.aload_n 0, 1) := by decide +kernel
theorem dX6_areHeadsSafe_1 : decode cX6_areHeadsSafe 1 = .ok (.getfield 55, 3) := by decide +kernel
theorem dX6_areHeadsSafe_4 : decode cX6_areHeadsSafe 4 = .ok (.invokevirtual 182, 3) := by decide +kernel
theorem dX6_areHeadsSafe_7 : decode cX6_areHeadsSafe 7 = .ok (.aload_n 0, 1) := by decide +kernel
theorem dX6_areHeadsSafe_8 : decode cX6_areHeadsSafe 8 = .ok (.getfield 28, 3) := by decide +kernel
theorem dX6_areHeadsSafe_11 : decode cX6_areHeadsSafe 11 = .ok (.if_icmp .gt 40, 3) := by decide +kernel
theorem dX6_areHeadsSafe_14 : decode cX6_areHeadsSafe 14 = .ok (.aload_n 0, 1) := by decide +kernel
theorem dX6_areHeadsSafe_15 : decode cX6_areHeadsSafe 15 = .ok (.getfield 55, 3) := by decide +kernel
theorem dX6_areHeadsSafe_18 : decode cX6_areHeadsSafe 18 = .ok (.aload_n 0, 1) := by decide +kernel
theorem dX6_areHeadsSafe_19 : decode cX6_areHeadsSafe 19 = .ok (.getfield 21, 3) := by decide +kernel
theorem dX6_areHeadsSafe_22 : decode cX6_areHeadsSafe 22 = .ok (.iconst 0, 1) := by decide +kernel
theorem dX6_areHeadsSafe_23 : decode cX6_areHeadsSafe 23 = .ok (.iaload, 1) := by decide +kernel
theorem dX6_areHeadsSafe_24 : decode cX6_areHeadsSafe 24 = .ok (.aload_n 0, 1) := by decide +kernel
theorem dX6_areHeadsSafe_25 : decode cX6_areHeadsSafe 25 = .ok (.getfield 21, 3) := by decide +kernel
theorem dX6_areHeadsSafe_28 : decode cX6_areHeadsSafe 28 = .ok (.iconst 1, 1) := by decide +kernel
theorem dX6_areHeadsSafe_29 : decode cX6_areHeadsSafe 29 = .ok (.iaload, 1) := by decide +kernel
theorem dX6_areHeadsSafe_30 : decode cX6_areHeadsSafe 30 = .ok (.aload_n 0, 1) := by decide +kernel
theorem dX6_areHeadsSafe_31 : decode cX6_areHeadsSafe 31 = .ok (.getfield 21, 3) := by decide +kernel
theorem dX6_areHeadsSafe_34 : decode cX6_areHeadsSafe 34 = .ok (.iconst 2, 1) := by decide +kernel
theorem dX6_areHeadsSafe_35 : decode cX6_areHeadsSafe 35 = .ok (.iaload, 1) := by decide +kernel
theorem dX6_areHeadsSafe_36 : decode cX6_areHeadsSafe 36 = .ok (.invokevirtual 215, 3) := by decide +kernel
theorem dX6_areHeadsSafe_39 : decode cX6_areHeadsSafe 39 = .ok (.aload_n 0, 1) := by decide +kernel
theorem dX6_areHeadsSafe_40 : decode cX6_areHeadsSafe 40 = .ok (.iload_n 1, 1) := by decide +kernel
theorem dX6_areHeadsSafe_41 : decode cX6_areHeadsSafe 41 = .ok (.invokevirtual 188, 3) := by decide +kernel
theorem dX6_areHeadsSafe_44 : decode cX6_areHeadsSafe 44 = .ok (.if_icmp .gt 7, 3) := by decide +kernel
theorem dX6_areHeadsSafe_47 : decode cX6_areHeadsSafe 47 = .ok (.iconst 1, 1) := by decide +kernel
theorem dX6_areHeadsSafe_48 : decode cX6_areHeadsSafe 48 = .ok (.goto 4, 3) := by decide +kernel
theorem dX6_areHeadsSafe_51 : decode cX6_areHeadsSafe 51 = .ok (.iconst 0, 1) := by decide +kernel
theorem dX6_areHeadsSafe_52 : decode cX6_areHeadsSafe 52 = .ok (.ireturn, 1) := by decide +kernel
theorem dX6_areSafeWith_0 : decode cX6_areSafeWith 0 = .ok (.iconst 0, 1) := by decide +kernel
theorem dX6_areSafeWith_1 : decode cX6_areSafeWith 1 = .ok (.istore 4, 2) := by decide +kernel
theorem dX6_areSafeWith_3 : decode cX6_areSafeWith 3 = .ok (.iload 4, 2) := by decide +kernel
theorem dX6_areSafeWith_5 : decode cX6_areSafeWith 5 = .ok (.bipush 50, 2) := by decide +kernel
theorem dX6_areSafeWith_7 : decode cX6_areSafeWith 7 = .ok (.if_icmp .ge 46, 3) := by decide +kernel
theorem dX6_areSafeWith_10 : decode cX6_areSafeWith 10 = .ok (.lload_n 1, 1) := by decide +kernel
theorem dX6_areSafeWith_11 : decode cX6_areSafeWith 11 = .ok (.iload 4, 2) := by decide +kernel
theorem dX6_areSafeWith_13 : decode cX6_areSafeWith 13 = .ok (.invokestatic 205, 3) := by decide +kernel
theorem dX6_areSafeWith_16 : decode cX6_areSafeWith 16 = .ok (.ifCond .eq 31, 3) := by decide +kernel
theorem dX6_areSafeWith_19 : decode cX6_areSafeWith 19 = .ok (.aload_n 0, 1) := by decide +kernel
theorem dX6_areSafeWith_20 : decode cX6_areSafeWith 20 = .ok (.iload 4, 2) := by decide +kernel
theorem dX6_areSafeWith_22 : decode cX6_areSafeWith 22 = .ok (.invokevirtual 178, 3) := by decide +kernel
theorem dX6_areSafeWith_25 : decode cX6_areSafeWith 25 = .ok (.aload_n 0, 1) := by decide +kernel
theorem dX6_areSafeWith_26 : decode cX6_areSafeWith 26 = .ok (.getfield 55, 3) := by decide +kernel
theorem dX6_areSafeWith_29 : decode cX6_areSafeWith 29 = .ok (.aload_n 3, 1) := by decide +kernel
theorem dX6_areSafeWith_30 : decode cX6_areSafeWith 30 = .ok (.invokevirtual 209, 3) := by decide +kernel
theorem dX6_areSafeWith_33 : decode cX6_areSafeWith 33 = .ok (.invokevirtual 212, 3) := by decide +kernel
theorem dX6_areSafeWith_36 : decode cX6_areSafeWith 36 = .ok (.aload_n 0, 1) := by decide +kernel
theorem dX6_areSafeWith_37 : decode cX6_areSafeWith 37 = .ok (.iload 4, 2) := by decide +kernel
theorem dX6_areSafeWith_39 : decode cX6_areSafeWith 39 = .ok (.invokevirtual 191, 3) := by decide +kernel
theorem dX6_areSafeWith_42 : decode cX6_areSafeWith 42 = .ok (.ifCond .ne 5, 3) := by decide +kernel
theorem dX6_areSafeWith_45 : decode cX6_areSafeWith 45 = .ok (.iconst 0, 1) := by decide +kernel
theorem dX6_areSafeWith_46 : decode cX6_areSafeWith 46 = .ok (.ireturn, 1) := by decide +kernel
theorem dX6_areSafeWith_47 : decode cX6_areSafeWith 47 = .ok (.iinc 4 1, 3) := by decide +kernel
theorem dX6_areSafeWith_50 : decode cX6_areSafeWith 50 = .ok (.goto (-47), 3) := by decide +kernel
theorem dX6_areSafeWith_53 : decode cX6_areSafeWith 53 = .ok (.iconst 1, 1) := by decide +kernel
theorem dX6_areSafeWith_54 : decode cX6_areSafeWith 54 = .ok (.ireturn, 1) := by decide +kernel
theorem dX6_setRate_0 : decode cX6_setRate 0 = .ok (.iload_n 1, 1) := by decide +kernel
theorem dX6_setRate_1 : decode cX6_setRate 1 = .ok (.invokestatic 168, 3) := by decide +kernel
theorem dX6_setRate_4 : decode cX6_setRate 4 = .ok (.ifCond .eq 14, 3) := by decide +kernel
theorem dX6_setRate_7 : decode cX6_setRate 7 = .ok (.iload_n 2, 1) := by decide +kernel
theorem dX6_setRate_8 : decode cX6_setRate 8 = .ok (.ifCond .lt 10, 3) := by decide +kernel
theorem dX6_setRate_11 : decode cX6_setRate 11 = .ok (.iload_n 2, 1) := by decide +kernel
theorem dX6_setRate_12 : decode cX6_setRate 12 = .ok (.sipush 5000, 3) := by decide +kernel
theorem dX6_setRate_15 : decode cX6_setRate 15 = .ok (.if_icmp .le 5, 3) := by decide +kernel
theorem dX6_setRate_18 : decode cX6_setRate 18 = .ok (.iconst (-1), 1) := by decide +kernel
theorem dX6_setRate_19 : decode cX6_setRate 19 = .ok (.ireturn, 1) := by decide +kernel
theorem dX6_setRate_20 : decode cX6_setRate 20 = .ok (.aload_n 0, 1) := by decide +kernel
theorem dX6_setRate_21 : decode cX6_setRate 21 = .ok (.getfield 25, 3) := by decide +kernel
theorem dX6_setRate_24 : decode cX6_setRate 24 = .ok (.iload_n 1, 1) := by decide +kernel
theorem dX6_setRate_25 : decode cX6_setRate 25 = .ok (.iaload, 1) := by decide +kernel
theorem dX6_setRate_26 : decode cX6_setRate 26 = .ok (.istore_n 3, 1) := by decide +kernel
theorem dX6_setRate_27 : decode cX6_setRate 27 = .ok (.aload_n 0, 1) := by decide +kernel
theorem dX6_setRate_28 : decode cX6_setRate 28 = .ok (.getfield 25, 3) := by decide +kernel
theorem dX6_setRate_31 : decode cX6_setRate 31 = .ok (.iload_n 1, 1) := by decide +kernel
theorem dX6_setRate_32 : decode cX6_setRate 32 = .ok (.iload_n 2, 1) := by decide +kernel
theorem dX6_setRate_33 : decode cX6_setRate 33 = .ok (.iastore, 1) := by decide +kernel
theorem dX6_setRate_34 : decode cX6_setRate 34 = .ok (.iload_n 3, 1) := by decide +kernel
theorem dX6_setRate_35 : decode cX6_setRate 35 = .ok (.ireturn, 1) := by decide +kernel
theorem dX6_fee_0 : decode cX6_fee 0 = .ok (.aload_n 0, 1) := by decide +kernel
theorem dX6_fee_1 : decode cX6_fee 1 = .ok (.iload_n 1, 1) := by decide +kernel
theorem dX6_fee_2 : decode cX6_fee 2 = .ok (.invokevirtual 68, 3) := by decide +kernel
theorem dX6_fee_5 : decode cX6_fee 5 = .ok (.astore_n 2, 1) := by decide +kernel
theorem dX6_fee_6 : decode cX6_fee 6 = .ok (.aload_n 2, 1) := by decide +kernel
theorem dX6_fee_7 : decode cX6_fee 7 = .ok (.ifnonnull 5, 3) := by decide +kernel
theorem dX6_fee_10 : decode cX6_fee 10 = .ok (.iconst (-1), 1) := by decide +kernel
theorem dX6_fee_11 : decode cX6_fee 11 = .ok (.ireturn, 1) := by decide +kernel
theorem dX6_fee_12 : decode cX6_fee 12 = .ok (.aload_n 2, 1) := by decide +kernel
theorem dX6_fee_13 : decode cX6_fee 13 = .ok (.getfield 78, 3) := by decide +kernel
theorem dX6_fee_16 : decode cX6_fee 16 = .ok (.ifCond .eq 13, 3) := by decide +kernel
theorem dX6_fee_19 : decode cX6_fee 19 = .ok (.aload_n 0, 1) := by decide +kernel
theorem dX6_fee_20 : decode cX6_fee 20 = .ok (.aload_n 2, 1) := by decide +kernel
theorem dX6_fee_21 : decode cX6_fee 21 = .ok (.iload_n 1, 1) := by decide +kernel
theorem dX6_fee_22 : decode cX6_fee 22 = .ok (.iconst (-1), 1) := by decide +kernel
theorem dX6_fee_23 : decode cX6_fee 23 = .ok (.invokevirtual 219, 3) := by decide +kernel
theorem dX6_fee_26 : decode cX6_fee 26 = .ok (.goto 5, 3) := by decide +kernel
theorem dX6_fee_29 : decode cX6_fee 29 = .ok (.bipush (-2), 2) := by decide +kernel
theorem dX6_fee_31 : decode cX6_fee 31 = .ok (.ireturn, 1) := by decide +kernel
theorem dX6_income_0 : decode cX6_income 0 = .ok (.iconst 0, 1) := by decide +kernel
theorem dX6_income_1 : decode cX6_income 1 = .ok (.istore_n 1, 1) := by decide +kernel
theorem dX6_income_2 : decode cX6_income 2 = .ok (.iconst 0, 1) := by decide +kernel
theorem dX6_income_3 : decode cX6_income 3 = .ok (.istore_n 2, 1) := by decide +kernel
theorem dX6_income_4 : decode cX6_income 4 = .ok (.iload_n 2, 1) := by decide +kernel
theorem dX6_income_5 : decode cX6_income 5 = .ok (.bipush 12, 2) := by decide +kernel
theorem dX6_income_7 : decode cX6_income 7 = .ok (.if_icmp .ge 18, 3) := by decide +kernel
theorem dX6_income_10 : decode cX6_income 10 = .ok (.iload_n 1, 1) := by decide +kernel
theorem dX6_income_11 : decode cX6_income 11 = .ok (.aload_n 0, 1) := by decide +kernel
theorem dX6_income_12 : decode cX6_income 12 = .ok (.iload_n 2, 1) := by decide +kernel
theorem dX6_income_13 : decode cX6_income 13 = .ok (.iconst (-1), 1) := by decide +kernel
theorem dX6_income_14 : decode cX6_income 14 = .ok (.invokevirtual 223, 3) := by decide +kernel
theorem dX6_income_17 : decode cX6_income 17 = .ok (.iadd, 1) := by decide +kernel
theorem dX6_income_18 : decode cX6_income 18 = .ok (.istore_n 1, 1) := by decide +kernel
theorem dX6_income_19 : decode cX6_income 19 = .ok (.iinc 2 1, 3) := by decide +kernel
theorem dX6_income_22 : decode cX6_income 22 = .ok (.goto (-18), 3) := by decide +kernel
theorem dX6_income_25 : decode cX6_income 25 = .ok (.iload_n 1, 1) := by decide +kernel
theorem dX6_income_26 : decode cX6_income 26 = .ok (.ireturn, 1) := by decide +kernel
theorem dX6_familyFeeIfAdmitted_0 : decode cX6_familyFeeIfAdmitted 0 = .ok (.aload_n 0, 1) := by decide +kernel
theorem dX6_familyFeeIfAdmitted_1 : decode cX6_familyFeeIfAdmitted 1 = .ok (.iload_n 1, 1) := by decide +kernel
theorem dX6_familyFeeIfAdmitted_2 : decode cX6_familyFeeIfAdmitted 2 = .ok (.invokevirtual 68, 3) := by decide +kernel
theorem dX6_familyFeeIfAdmitted_5 : decode cX6_familyFeeIfAdmitted 5 = .ok (.astore_n 2, 1) := by decide +kernel
theorem dX6_familyFeeIfAdmitted_6 : decode cX6_familyFeeIfAdmitted 6 = .ok (.aload_n 2, 1) := by decide +kernel
theorem dX6_familyFeeIfAdmitted_7 : decode cX6_familyFeeIfAdmitted 7 = .ok (.ifnonnull 5, 3) := by decide +kernel
theorem dX6_familyFeeIfAdmitted_10 : decode cX6_familyFeeIfAdmitted 10 = .ok (.iconst (-1), 1) := by decide +kernel
theorem dX6_familyFeeIfAdmitted_11 : decode cX6_familyFeeIfAdmitted 11 = .ok (.ireturn, 1) := by decide +kernel
theorem dX6_familyFeeIfAdmitted_12 : decode cX6_familyFeeIfAdmitted 12 = .ok (.aload_n 2, 1) := by decide +kernel
theorem dX6_familyFeeIfAdmitted_13 : decode cX6_familyFeeIfAdmitted 13 = .ok (.getfield 78, 3) := by decide +kernel
theorem dX6_familyFeeIfAdmitted_16 : decode cX6_familyFeeIfAdmitted 16 = .ok (.ifCond .eq 8, 3) := by decide +kernel
theorem dX6_familyFeeIfAdmitted_19 : decode cX6_familyFeeIfAdmitted 19 = .ok (.bipush (-2), 2) := by decide +kernel
theorem dX6_familyFeeIfAdmitted_21 : decode cX6_familyFeeIfAdmitted 21 = .ok (.goto 12, 3) := by decide +kernel
theorem dX6_familyFeeIfAdmitted_24 : decode cX6_familyFeeIfAdmitted 24 = .ok (.aload_n 0, 1) := by decide +kernel
theorem dX6_familyFeeIfAdmitted_25 : decode cX6_familyFeeIfAdmitted 25 = .ok (.aload_n 2, 1) := by decide +kernel
theorem dX6_familyFeeIfAdmitted_26 : decode cX6_familyFeeIfAdmitted 26 = .ok (.getfield 132, 3) := by decide +kernel
theorem dX6_familyFeeIfAdmitted_29 : decode cX6_familyFeeIfAdmitted 29 = .ok (.iload_n 1, 1) := by decide +kernel
theorem dX6_familyFeeIfAdmitted_30 : decode cX6_familyFeeIfAdmitted 30 = .ok (.invokevirtual 223, 3) := by decide +kernel
theorem dX6_familyFeeIfAdmitted_33 : decode cX6_familyFeeIfAdmitted 33 = .ok (.ireturn, 1) := by decide +kernel
theorem dX6_familyFee_0 : decode cX6_familyFee 0 = .ok (.iconst 0, 1) := by decide +kernel
theorem dX6_familyFee_1 : decode cX6_familyFee 1 = .ok (.istore_n 3, 1) := by decide +kernel
theorem dX6_familyFee_2 : decode cX6_familyFee 2 = .ok (.iconst 0, 1) := by decide +kernel
theorem dX6_familyFee_3 : decode cX6_familyFee 3 = .ok (.istore 4, 2) := by decide +kernel
theorem dX6_familyFee_5 : decode cX6_familyFee 5 = .ok (.iload 4, 2) := by decide +kernel
theorem dX6_familyFee_7 : decode cX6_familyFee 7 = .ok (.aload_n 0, 1) := by decide +kernel
theorem dX6_familyFee_8 : decode cX6_familyFee 8 = .ok (.getfield 11, 3) := by decide +kernel
theorem dX6_familyFee_11 : decode cX6_familyFee 11 = .ok (.arraylength, 1) := by decide +kernel
theorem dX6_familyFee_12 : decode cX6_familyFee 12 = .ok (.if_icmp .ge 56, 3) := by decide +kernel
theorem dX6_familyFee_15 : decode cX6_familyFee 15 = .ok (.aload_n 0, 1) := by decide +kernel
theorem dX6_familyFee_16 : decode cX6_familyFee 16 = .ok (.getfield 11, 3) := by decide +kernel
theorem dX6_familyFee_19 : decode cX6_familyFee 19 = .ok (.iload 4, 2) := by decide +kernel
theorem dX6_familyFee_21 : decode cX6_familyFee 21 = .ok (.aaload, 1) := by decide +kernel
theorem dX6_familyFee_22 : decode cX6_familyFee 22 = .ok (.astore 5, 2) := by decide +kernel
theorem dX6_familyFee_24 : decode cX6_familyFee 24 = .ok (.aload 5, 2) := by decide +kernel
theorem dX6_familyFee_26 : decode cX6_familyFee 26 = .ok (.ifnull 36, 3) := by decide +kernel
theorem dX6_familyFee_29 : decode cX6_familyFee 29 = .ok (.aload 5, 2) := by decide +kernel
theorem dX6_familyFee_31 : decode cX6_familyFee 31 = .ok (.getfield 132, 3) := by decide +kernel
theorem dX6_familyFee_34 : decode cX6_familyFee 34 = .ok (.iload_n 1, 1) := by decide +kernel
theorem dX6_familyFee_35 : decode cX6_familyFee 35 = .ok (.if_icmp .ne 27, 3) := by decide +kernel
theorem dX6_familyFee_38 : decode cX6_familyFee 38 = .ok (.aload_n 0, 1) := by decide +kernel
theorem dX6_familyFee_39 : decode cX6_familyFee 39 = .ok (.aload 5, 2) := by decide +kernel
theorem dX6_familyFee_41 : decode cX6_familyFee 41 = .ok (.iload 4, 2) := by decide +kernel
theorem dX6_familyFee_43 : decode cX6_familyFee 43 = .ok (.iload_n 2, 1) := by decide +kernel
theorem dX6_familyFee_44 : decode cX6_familyFee 44 = .ok (.invokevirtual 226, 3) := by decide +kernel
theorem dX6_familyFee_47 : decode cX6_familyFee 47 = .ok (.ifCond .eq 15, 3) := by decide +kernel
theorem dX6_familyFee_50 : decode cX6_familyFee 50 = .ok (.iload_n 3, 1) := by decide +kernel
theorem dX6_familyFee_51 : decode cX6_familyFee 51 = .ok (.aload_n 0, 1) := by decide +kernel
theorem dX6_familyFee_52 : decode cX6_familyFee 52 = .ok (.aload 5, 2) := by decide +kernel
theorem dX6_familyFee_54 : decode cX6_familyFee 54 = .ok (.iload 4, 2) := by decide +kernel
theorem dX6_familyFee_56 : decode cX6_familyFee 56 = .ok (.iload_n 2, 1) := by decide +kernel
theorem dX6_familyFee_57 : decode cX6_familyFee 57 = .ok (.invokevirtual 219, 3) := by decide +kernel
theorem dX6_familyFee_60 : decode cX6_familyFee 60 = .ok (.iadd, 1) := by decide +kernel
theorem dX6_familyFee_61 : decode cX6_familyFee 61 = .ok (.istore_n 3, 1) := by decide +kernel
theorem dX6_familyFee_62 : decode cX6_familyFee 62 = .ok (.iinc 4 1, 3) := by decide +kernel
theorem dX6_familyFee_65 : decode cX6_familyFee 65 = .ok (.goto (-60), 3) := by decide +kernel
theorem dX6_familyFee_68 : decode cX6_familyFee 68 = .ok (.iload_n 3, 1) := by decide +kernel
theorem dX6_familyFee_69 : decode cX6_familyFee 69 = .ok (.ireturn, 1) := by decide +kernel
theorem dX6_pays_0 : decode cX6_pays 0 = .ok (.aload_n 1, 1) := by decide +kernel
theorem dX6_pays_1 : decode cX6_pays 1 = .ok (.getfield 78, 3) := by decide +kernel
theorem dX6_pays_4 : decode cX6_pays 4 = .ok (.ifCond .ne 8, 3) := by decide +kernel
theorem dX6_pays_7 : decode cX6_pays 7 = .ok (.iload_n 2, 1) := by decide +kernel
theorem dX6_pays_8 : decode cX6_pays 8 = .ok (.iload_n 3, 1) := by decide +kernel
theorem dX6_pays_9 : decode cX6_pays 9 = .ok (.if_icmp .ne 7, 3) := by decide +kernel
theorem dX6_pays_12 : decode cX6_pays 12 = .ok (.iconst 1, 1) := by decide +kernel
theorem dX6_pays_13 : decode cX6_pays 13 = .ok (.goto 4, 3) := by decide +kernel
theorem dX6_pays_16 : decode cX6_pays 16 = .ok (.iconst 0, 1) := by decide +kernel
theorem dX6_pays_17 : decode cX6_pays 17 = .ok (.ireturn, 1) := by decide +kernel
theorem dX6_feeOf_0 : decode cX6_feeOf 0 = .ok (.aload_n 1, 1) := by decide +kernel
theorem dX6_feeOf_1 : decode cX6_feeOf 1 = .ok (.invokevirtual 209, 3) := by decide +kernel
theorem dX6_feeOf_4 : decode cX6_feeOf 4 = .ok (.istore 4, 2) := by decide +kernel
theorem dX6_feeOf_6 : decode cX6_feeOf 6 = .ok (.iload 4, 2) := by decide +kernel
theorem dX6_feeOf_8 : decode cX6_feeOf 8 = .ok (.invokestatic 168, 3) := by decide +kernel
theorem dX6_feeOf_11 : decode cX6_feeOf 11 = .ok (.ifCond .ne 5, 3) := by decide +kernel
theorem dX6_feeOf_14 : decode cX6_feeOf 14 = .ok (.iconst 0, 1) := by decide +kernel
theorem dX6_feeOf_15 : decode cX6_feeOf 15 = .ok (.ireturn, 1) := by decide +kernel
theorem dX6_feeOf_16 : decode cX6_feeOf 16 = .ok (.iconst 4, 1) := by decide +kernel
theorem dX6_feeOf_17 : decode cX6_feeOf 17 = .ok (.aload_n 1, 1) := by decide +kernel
theorem dX6_feeOf_18 : decode cX6_feeOf 18 = .ok (.invokevirtual 82, 3) := by decide +kernel
theorem dX6_feeOf_21 : decode cX6_feeOf 21 = .ok (.imul, 1) := by decide +kernel
theorem dX6_feeOf_22 : decode cX6_feeOf 22 = .ok (.aload_n 0, 1) := by decide +kernel
theorem dX6_feeOf_23 : decode cX6_feeOf 23 = .ok (.getfield 25, 3) := by decide +kernel
theorem dX6_feeOf_26 : decode cX6_feeOf 26 = .ok (.iload 4, 2) := by decide +kernel
theorem dX6_feeOf_28 : decode cX6_feeOf 28 = .ok (.iaload, 1) := by decide +kernel
theorem dX6_feeOf_29 : decode cX6_feeOf 29 = .ok (.imul, 1) := by decide +kernel
theorem dX6_feeOf_30 : decode cX6_feeOf 30 = .ok (.aload_n 0, 1) := by decide +kernel
theorem dX6_feeOf_31 : decode cX6_feeOf 31 = .ok (.aload_n 1, 1) := by decide +kernel
theorem dX6_feeOf_32 : decode cX6_feeOf 32 = .ok (.iload_n 2, 1) := by decide +kernel
theorem dX6_feeOf_33 : decode cX6_feeOf 33 = .ok (.iload_n 3, 1) := by decide +kernel
theorem dX6_feeOf_34 : decode cX6_feeOf 34 = .ok (.invokevirtual 230, 3) := by decide +kernel
theorem dX6_feeOf_37 : decode cX6_feeOf 37 = .ok (.imul, 1) := by decide +kernel
theorem dX6_feeOf_38 : decode cX6_feeOf 38 = .ok (.bipush 100, 2) := by decide +kernel
theorem dX6_feeOf_40 : decode cX6_feeOf 40 = .ok (.idiv, 1) := by decide +kernel
theorem dX6_feeOf_41 : decode cX6_feeOf 41 = .ok (.ireturn, 1) := by decide +kernel
theorem dX6_percentageOf_0 : decode cX6_percentageOf 0 = .ok (.aload_n 0, 1) := by decide +kernel
theorem dX6_percentageOf_1 : decode cX6_percentageOf 1 = .ok (.aload_n 1, 1) := by decide +kernel
theorem dX6_percentageOf_2 : decode cX6_percentageOf 2 = .ok (.iload_n 2, 1) := by decide +kernel
theorem dX6_percentageOf_3 : decode cX6_percentageOf 3 = .ok (.iload_n 3, 1) := by decide +kernel
theorem dX6_percentageOf_4 : decode cX6_percentageOf 4 = .ok (.invokevirtual 233, 3) := by decide +kernel
theorem dX6_percentageOf_7 : decode cX6_percentageOf 7 = .ok (.lookupswitch 31 #[(0, 25), (1, 28)], 25) := by decide +kernel
theorem dX6_percentageOf_32 : decode cX6_percentageOf 32 = .ok (.bipush 100, 2) := by decide +kernel
theorem dX6_percentageOf_34 : decode cX6_percentageOf 34 = .ok (.ireturn, 1) := by decide +kernel
theorem dX6_percentageOf_35 : decode cX6_percentageOf 35 = .ok (.bipush 70, 2) := by decide +kernel
theorem dX6_percentageOf_37 : decode cX6_percentageOf 37 = .ok (.ireturn, 1) := by decide +kernel
theorem dX6_percentageOf_38 : decode cX6_percentageOf 38 = .ok (.bipush 40, 2) := by decide +kernel
theorem dX6_percentageOf_40 : decode cX6_percentageOf 40 = .ok (.ireturn, 1) := by decide +kernel
theorem dX6_rankOf_0 : decode cX6_rankOf 0 = .ok (.iconst 0, 1) := by decide +kernel
theorem dX6_rankOf_1 : decode cX6_rankOf 1 = .ok (.istore 4, 2) := by decide +kernel
theorem dX6_rankOf_3 : decode cX6_rankOf 3 = .ok (.iconst 0, 1) := by decide +kernel
theorem dX6_rankOf_4 : decode cX6_rankOf 4 = .ok (.istore 5, 2) := by decide +kernel
theorem dX6_rankOf_6 : decode cX6_rankOf 6 = .ok (.iload 5, 2) := by decide +kernel
theorem dX6_rankOf_8 : decode cX6_rankOf 8 = .ok (.aload_n 0, 1) := by decide +kernel
theorem dX6_rankOf_9 : decode cX6_rankOf 9 = .ok (.getfield 11, 3) := by decide +kernel
theorem dX6_rankOf_12 : decode cX6_rankOf 12 = .ok (.arraylength, 1) := by decide +kernel
theorem dX6_rankOf_13 : decode cX6_rankOf 13 = .ok (.if_icmp .ge 92, 3) := by decide +kernel
theorem dX6_rankOf_16 : decode cX6_rankOf 16 = .ok (.aload_n 0, 1) := by decide +kernel
theorem dX6_rankOf_17 : decode cX6_rankOf 17 = .ok (.getfield 11, 3) := by decide +kernel
theorem dX6_rankOf_20 : decode cX6_rankOf 20 = .ok (.iload 5, 2) := by decide +kernel
theorem dX6_rankOf_22 : decode cX6_rankOf 22 = .ok (.aaload, 1) := by decide +kernel
theorem dX6_rankOf_23 : decode cX6_rankOf 23 = .ok (.astore 6, 2) := by decide +kernel
theorem dX6_rankOf_25 : decode cX6_rankOf 25 = .ok (.aload 6, 2) := by decide +kernel
theorem dX6_rankOf_27 : decode cX6_rankOf 27 = .ok (.ifnull 72, 3) := by decide +kernel
theorem dX6_rankOf_30 : decode cX6_rankOf 30 = .ok (.aload 6, 2) := by decide +kernel
theorem dX6_rankOf_32 : decode cX6_rankOf 32 = .ok (.getfield 132, 3) := by decide +kernel
theorem dX6_rankOf_35 : decode cX6_rankOf 35 = .ok (.aload_n 1, 1) := by decide +kernel
theorem dX6_rankOf_36 : decode cX6_rankOf 36 = .ok (.getfield 132, 3) := by decide +kernel
theorem dX6_rankOf_39 : decode cX6_rankOf 39 = .ok (.if_icmp .ne 60, 3) := by decide +kernel
theorem dX6_rankOf_42 : decode cX6_rankOf 42 = .ok (.aload_n 0, 1) := by decide +kernel
theorem dX6_rankOf_43 : decode cX6_rankOf 43 = .ok (.aload 6, 2) := by decide +kernel
theorem dX6_rankOf_45 : decode cX6_rankOf 45 = .ok (.iload 5, 2) := by decide +kernel
theorem dX6_rankOf_47 : decode cX6_rankOf 47 = .ok (.iload_n 3, 1) := by decide +kernel
theorem dX6_rankOf_48 : decode cX6_rankOf 48 = .ok (.invokevirtual 226, 3) := by decide +kernel
theorem dX6_rankOf_51 : decode cX6_rankOf 51 = .ok (.ifCond .eq 48, 3) := by decide +kernel
theorem dX6_rankOf_54 : decode cX6_rankOf 54 = .ok (.aload 6, 2) := by decide +kernel
theorem dX6_rankOf_56 : decode cX6_rankOf 56 = .ok (.getfield 75, 3) := by decide +kernel
theorem dX6_rankOf_59 : decode cX6_rankOf 59 = .ok (.aload_n 1, 1) := by decide +kernel
theorem dX6_rankOf_60 : decode cX6_rankOf 60 = .ok (.getfield 75, 3) := by decide +kernel
theorem dX6_rankOf_63 : decode cX6_rankOf 63 = .ok (.if_icmp .ne 7, 3) := by decide +kernel
theorem dX6_rankOf_66 : decode cX6_rankOf 66 = .ok (.iconst 1, 1) := by decide +kernel
theorem dX6_rankOf_67 : decode cX6_rankOf 67 = .ok (.goto 4, 3) := by decide +kernel
theorem dX6_rankOf_70 : decode cX6_rankOf 70 = .ok (.iconst 0, 1) := by decide +kernel
theorem dX6_rankOf_71 : decode cX6_rankOf 71 = .ok (.istore 7, 2) := by decide +kernel
theorem dX6_rankOf_73 : decode cX6_rankOf 73 = .ok (.aload 6, 2) := by decide +kernel
theorem dX6_rankOf_75 : decode cX6_rankOf 75 = .ok (.getfield 75, 3) := by decide +kernel
theorem dX6_rankOf_78 : decode cX6_rankOf 78 = .ok (.aload_n 1, 1) := by decide +kernel
theorem dX6_rankOf_79 : decode cX6_rankOf 79 = .ok (.getfield 75, 3) := by decide +kernel
theorem dX6_rankOf_82 : decode cX6_rankOf 82 = .ok (.if_icmp .gt 14, 3) := by decide +kernel
theorem dX6_rankOf_85 : decode cX6_rankOf 85 = .ok (.iload 7, 2) := by decide +kernel
theorem dX6_rankOf_87 : decode cX6_rankOf 87 = .ok (.ifCond .eq 12, 3) := by decide +kernel
theorem dX6_rankOf_90 : decode cX6_rankOf 90 = .ok (.iload 5, 2) := by decide +kernel
theorem dX6_rankOf_92 : decode cX6_rankOf 92 = .ok (.iload_n 2, 1) := by decide +kernel
theorem dX6_rankOf_93 : decode cX6_rankOf 93 = .ok (.if_icmp .ge 6, 3) := by decide +kernel
theorem dX6_rankOf_96 : decode cX6_rankOf 96 = .ok (.iinc 4 1, 3) := by decide +kernel
theorem dX6_rankOf_99 : decode cX6_rankOf 99 = .ok (.iinc 5 1, 3) := by decide +kernel
theorem dX6_rankOf_102 : decode cX6_rankOf 102 = .ok (.goto (-96), 3) := by decide +kernel
theorem dX6_rankOf_105 : decode cX6_rankOf 105 = .ok (.iload 4, 2) := by decide +kernel
theorem dX6_rankOf_107 : decode cX6_rankOf 107 = .ok (.ireturn, 1) := by decide +kernel
theorem dX6_addSubstitute_0 : decode cX6_addSubstitute 0 = .ok (.iload_n 1, 1) := by decide +kernel
theorem dX6_addSubstitute_1 : decode cX6_addSubstitute 1 = .ok (.iconst 1, 1) := by decide +kernel
theorem dX6_addSubstitute_2 : decode cX6_addSubstitute 2 = .ok (.if_icmp .lt 31, 3) := by decide +kernel
theorem dX6_addSubstitute_5 : decode cX6_addSubstitute 5 = .ok (.iload_n 1, 1) := by decide +kernel
theorem dX6_addSubstitute_6 : decode cX6_addSubstitute 6 = .ok (.bipush 31, 2) := by decide +kernel
theorem dX6_addSubstitute_8 : decode cX6_addSubstitute 8 = .ok (.if_icmp .gt 25, 3) := by decide +kernel
theorem dX6_addSubstitute_11 : decode cX6_addSubstitute 11 = .ok (.iload_n 2, 1) := by decide +kernel
theorem dX6_addSubstitute_12 : decode cX6_addSubstitute 12 = .ok (.iconst 1, 1) := by decide +kernel
theorem dX6_addSubstitute_13 : decode cX6_addSubstitute 13 = .ok (.if_icmp .lt 20, 3) := by decide +kernel
theorem dX6_addSubstitute_16 : decode cX6_addSubstitute 16 = .ok (.iload_n 2, 1) := by decide +kernel
theorem dX6_addSubstitute_17 : decode cX6_addSubstitute 17 = .ok (.iconst 5, 1) := by decide +kernel
theorem dX6_addSubstitute_18 : decode cX6_addSubstitute 18 = .ok (.if_icmp .gt 15, 3) := by decide +kernel
theorem dX6_addSubstitute_21 : decode cX6_addSubstitute 21 = .ok (.iload_n 3, 1) := by decide +kernel
theorem dX6_addSubstitute_22 : decode cX6_addSubstitute 22 = .ok (.iconst 1, 1) := by decide +kernel
theorem dX6_addSubstitute_23 : decode cX6_addSubstitute 23 = .ok (.if_icmp .lt 10, 3) := by decide +kernel
theorem dX6_addSubstitute_26 : decode cX6_addSubstitute 26 = .ok (.iload_n 3, 1) := by decide +kernel
theorem dX6_addSubstitute_27 : decode cX6_addSubstitute 27 = .ok (.sipush 1000, 3) := by decide +kernel
theorem dX6_addSubstitute_30 : decode cX6_addSubstitute 30 = .ok (.if_icmp .le 5, 3) := by decide +kernel
theorem dX6_addSubstitute_33 : decode cX6_addSubstitute 33 = .ok (.iconst (-1), 1) := by decide +kernel
theorem dX6_addSubstitute_34 : decode cX6_addSubstitute 34 = .ok (.ireturn, 1) := by decide +kernel
theorem dX6_addSubstitute_35 : decode cX6_addSubstitute 35 = .ok (.aload_n 0, 1) := by decide +kernel
theorem dX6_addSubstitute_36 : decode cX6_addSubstitute 36 = .ok (.getfield 48, 3) := by decide +kernel
theorem dX6_addSubstitute_39 : decode cX6_addSubstitute 39 = .ok (.iload_n 1, 1) := by decide +kernel
theorem dX6_addSubstitute_40 : decode cX6_addSubstitute 40 = .ok (.iload_n 2, 1) := by decide +kernel
theorem dX6_addSubstitute_41 : decode cX6_addSubstitute 41 = .ok (.iload_n 3, 1) := by decide +kernel
theorem dX6_addSubstitute_42 : decode cX6_addSubstitute 42 = .ok (.invokevirtual 236, 3) := by decide +kernel
theorem dX6_addSubstitute_45 : decode cX6_addSubstitute 45 = .ok (.ireturn, 1) := by decide +kernel
theorem dX6_shortage_0 : decode cX6_shortage 0 = .ok (.iload_n 1, 1) := by decide +kernel
theorem dX6_shortage_1 : decode cX6_shortage 1 = .ok (.invokestatic 162, 3) := by decide +kernel
theorem dX6_shortage_4 : decode cX6_shortage 4 = .ok (.ifCond .eq 10, 3) := by decide +kernel
theorem dX6_shortage_7 : decode cX6_shortage 7 = .ok (.iload_n 2, 1) := by decide +kernel
theorem dX6_shortage_8 : decode cX6_shortage 8 = .ok (.invokestatic 85, 3) := by decide +kernel
theorem dX6_shortage_11 : decode cX6_shortage 11 = .ok (.ifCond .ne 5, 3) := by decide +kernel
theorem dX6_shortage_14 : decode cX6_shortage 14 = .ok (.iconst (-1), 1) := by decide +kernel
theorem dX6_shortage_15 : decode cX6_shortage 15 = .ok (.ireturn, 1) := by decide +kernel
theorem dX6_shortage_16 : decode cX6_shortage 16 = .ok (.aload_n 0, 1) := by decide +kernel
theorem dX6_shortage_17 : decode cX6_shortage 17 = .ok (.invokevirtual 239, 3) := by decide +kernel
theorem dX6_shortage_20 : decode cX6_shortage 20 = .ok (.aload_n 0, 1) := by decide +kernel
theorem dX6_shortage_21 : decode cX6_shortage 21 = .ok (.iload_n 2, 1) := by decide +kernel
theorem dX6_shortage_22 : decode cX6_shortage 22 = .ok (.iload_n 1, 1) := by decide +kernel
theorem dX6_shortage_23 : decode cX6_shortage 23 = .ok (.iconst (-1), 1) := by decide +kernel
theorem dX6_shortage_24 : decode cX6_shortage 24 = .ok (.invokevirtual 242, 3) := by decide +kernel
theorem dX6_shortage_27 : decode cX6_shortage 27 = .ok (.ireturn, 1) := by decide +kernel
theorem dX6_cover_0 : decode cX6_cover 0 = .ok (.iload_n 1, 1) := by decide +kernel
theorem dX6_cover_1 : decode cX6_cover 1 = .ok (.invokestatic 162, 3) := by decide +kernel
theorem dX6_cover_4 : decode cX6_cover 4 = .ok (.ifCond .ne 5, 3) := by decide +kernel
theorem dX6_cover_7 : decode cX6_cover 7 = .ok (.iconst (-1), 1) := by decide +kernel
theorem dX6_cover_8 : decode cX6_cover 8 = .ok (.ireturn, 1) := by decide +kernel
theorem dX6_cover_9 : decode cX6_cover 9 = .ok (.aload_n 0, 1) := by decide +kernel
theorem dX6_cover_10 : decode cX6_cover 10 = .ok (.invokevirtual 239, 3) := by decide +kernel
theorem dX6_cover_13 : decode cX6_cover 13 = .ok (.aload_n 0, 1) := by decide +kernel
theorem dX6_cover_14 : decode cX6_cover 14 = .ok (.ldc 245, 2) := by decide +kernel
theorem dX6_cover_16 : decode cX6_cover 16 = .ok (.iload_n 1, 1) := by decide +kernel
theorem dX6_cover_17 : decode cX6_cover 17 = .ok (.iconst (-1), 1) := by decide +kernel
theorem dX6_cover_18 : decode cX6_cover 18 = .ok (.invokevirtual 246, 3) := by decide +kernel
theorem dX6_cover_21 : decode cX6_cover 21 = .ok (.istore_n 2, 1) := by decide +kernel
theorem dX6_cover_22 : decode cX6_cover 22 = .ok (.iload_n 2, 1) := by decide +kernel
theorem dX6_cover_23 : decode cX6_cover 23 = .ok (.iconst (-1), 1) := by decide +kernel
theorem dX6_cover_24 : decode cX6_cover 24 = .ok (.if_icmp .ne 6, 3) := by decide +kernel
theorem dX6_cover_27 : decode cX6_cover 27 = .ok (.bipush (-2), 2) := by decide +kernel
theorem dX6_cover_29 : decode cX6_cover 29 = .ok (.ireturn, 1) := by decide +kernel
theorem dX6_cover_30 : decode cX6_cover 30 = .ok (.iconst 0, 1) := by decide +kernel
theorem dX6_cover_31 : decode cX6_cover 31 = .ok (.istore_n 3, 1) := by decide +kernel
theorem dX6_cover_32 : decode cX6_cover 32 = .ok (.iload_n 3, 1) := by decide +kernel
theorem dX6_cover_33 : decode cX6_cover 33 = .ok (.iconst 5, 1) := by decide +kernel
theorem dX6_cover_34 : decode cX6_cover 34 = .ok (.if_icmp .ge 24, 3) := by decide +kernel
theorem dX6_cover_37 : decode cX6_cover 37 = .ok (.aload_n 0, 1) := by decide +kernel
theorem dX6_cover_38 : decode cX6_cover 38 = .ok (.getfield 35, 3) := by decide +kernel
theorem dX6_cover_41 : decode cX6_cover 41 = .ok (.iload_n 3, 1) := by decide +kernel
theorem dX6_cover_42 : decode cX6_cover 42 = .ok (.aload_n 0, 1) := by decide +kernel
theorem dX6_cover_43 : decode cX6_cover 43 = .ok (.getfield 48, 3) := by decide +kernel
theorem dX6_cover_46 : decode cX6_cover 46 = .ok (.getfield 249, 3) := by decide +kernel
theorem dX6_cover_49 : decode cX6_cover 49 = .ok (.iload_n 3, 1) := by decide +kernel
theorem dX6_cover_50 : decode cX6_cover 50 = .ok (.iaload, 1) := by decide +kernel
theorem dX6_cover_51 : decode cX6_cover 51 = .ok (.iastore, 1) := by decide +kernel
theorem dX6_cover_52 : decode cX6_cover 52 = .ok (.iinc 3 1, 3) := by decide +kernel
theorem dX6_cover_55 : decode cX6_cover 55 = .ok (.goto (-23), 3) := by decide +kernel
theorem dX6_cover_58 : decode cX6_cover 58 = .ok (.iload_n 2, 1) := by decide +kernel
theorem dX6_cover_59 : decode cX6_cover 59 = .ok (.ireturn, 1) := by decide +kernel
theorem dX6_coverOf_0 : decode cX6_coverOf 0 = .ok (.iload_n 1, 1) := by decide +kernel
theorem dX6_coverOf_1 : decode cX6_coverOf 1 = .ok (.invokestatic 85, 3) := by decide +kernel
theorem dX6_coverOf_4 : decode cX6_coverOf 4 = .ok (.ifCond .eq 12, 3) := by decide +kernel
theorem dX6_coverOf_7 : decode cX6_coverOf 7 = .ok (.aload_n 0, 1) := by decide +kernel
theorem dX6_coverOf_8 : decode cX6_coverOf 8 = .ok (.getfield 35, 3) := by decide +kernel
theorem dX6_coverOf_11 : decode cX6_coverOf 11 = .ok (.iload_n 1, 1) := by decide +kernel
theorem dX6_coverOf_12 : decode cX6_coverOf 12 = .ok (.iaload, 1) := by decide +kernel
theorem dX6_coverOf_13 : decode cX6_coverOf 13 = .ok (.goto 4, 3) := by decide +kernel
theorem dX6_coverOf_16 : decode cX6_coverOf 16 = .ok (.iconst (-1), 1) := by decide +kernel
theorem dX6_coverOf_17 : decode cX6_coverOf 17 = .ok (.ireturn, 1) := by decide +kernel
theorem dX6_cheapestHoliday_0 : decode cX6_cheapestHoliday 0 = .ok (.aload_n 0, 1) := by decide +kernel
theorem dX6_cheapestHoliday_1 : decode cX6_cheapestHoliday 1 = .ok (.iload_n 1, 1) := by decide +kernel
theorem dX6_cheapestHoliday_2 : decode cX6_cheapestHoliday 2 = .ok (.invokevirtual 147, 3) := by decide +kernel
theorem dX6_cheapestHoliday_5 : decode cX6_cheapestHoliday 5 = .ok (.astore_n 2, 1) := by decide +kernel
theorem dX6_cheapestHoliday_6 : decode cX6_cheapestHoliday 6 = .ok (.aload_n 2, 1) := by decide +kernel
theorem dX6_cheapestHoliday_7 : decode cX6_cheapestHoliday 7 = .ok (.ifnonnull 5, 3) := by decide +kernel
theorem dX6_cheapestHoliday_10 : decode cX6_cheapestHoliday 10 = .ok (.iconst (-1), 1) := by decide +kernel
theorem dX6_cheapestHoliday_11 : decode cX6_cheapestHoliday 11 = .ok (.ireturn, 1) := by decide +kernel
theorem dX6_cheapestHoliday_12 : decode cX6_cheapestHoliday 12 = .ok (.aload_n 0, 1) := by decide +kernel
theorem dX6_cheapestHoliday_13 : decode cX6_cheapestHoliday 13 = .ok (.invokevirtual 239, 3) := by decide +kernel
theorem dX6_cheapestHoliday_16 : decode cX6_cheapestHoliday 16 = .ok (.bipush (-9), 2) := by decide +kernel
theorem dX6_cheapestHoliday_18 : decode cX6_cheapestHoliday 18 = .ok (.istore_n 3, 1) := by decide +kernel
theorem dX6_cheapestHoliday_19 : decode cX6_cheapestHoliday 19 = .ok (.ldc 245, 2) := by decide +kernel
theorem dX6_cheapestHoliday_21 : decode cX6_cheapestHoliday 21 = .ok (.istore 4, 2) := by decide +kernel
theorem dX6_cheapestHoliday_23 : decode cX6_cheapestHoliday 23 = .ok (.iconst 0, 1) := by decide +kernel
theorem dX6_cheapestHoliday_24 : decode cX6_cheapestHoliday 24 = .ok (.istore 5, 2) := by decide +kernel
theorem dX6_cheapestHoliday_26 : decode cX6_cheapestHoliday 26 = .ok (.iload 5, 2) := by decide +kernel
theorem dX6_cheapestHoliday_28 : decode cX6_cheapestHoliday 28 = .ok (.bipush 52, 2) := by decide +kernel
theorem dX6_cheapestHoliday_30 : decode cX6_cheapestHoliday 30 = .ok (.if_icmp .ge 42, 3) := by decide +kernel
theorem dX6_cheapestHoliday_33 : decode cX6_cheapestHoliday 33 = .ok (.aload_n 2, 1) := by decide +kernel
theorem dX6_cheapestHoliday_34 : decode cX6_cheapestHoliday 34 = .ok (.iload 5, 2) := by decide +kernel
theorem dX6_cheapestHoliday_36 : decode cX6_cheapestHoliday 36 = .ok (.invokevirtual 252, 3) := by decide +kernel
theorem dX6_cheapestHoliday_39 : decode cX6_cheapestHoliday 39 = .ok (.ifCond .ne 27, 3) := by decide +kernel
theorem dX6_cheapestHoliday_42 : decode cX6_cheapestHoliday 42 = .ok (.aload_n 0, 1) := by decide +kernel
theorem dX6_cheapestHoliday_43 : decode cX6_cheapestHoliday 43 = .ok (.iload 4, 2) := by decide +kernel
theorem dX6_cheapestHoliday_45 : decode cX6_cheapestHoliday 45 = .ok (.iload 5, 2) := by decide +kernel
theorem dX6_cheapestHoliday_47 : decode cX6_cheapestHoliday 47 = .ok (.iload_n 1, 1) := by decide +kernel
theorem dX6_cheapestHoliday_48 : decode cX6_cheapestHoliday 48 = .ok (.invokevirtual 246, 3) := by decide +kernel
theorem dX6_cheapestHoliday_51 : decode cX6_cheapestHoliday 51 = .ok (.istore 6, 2) := by decide +kernel
theorem dX6_cheapestHoliday_53 : decode cX6_cheapestHoliday 53 = .ok (.iload 6, 2) := by decide +kernel
theorem dX6_cheapestHoliday_55 : decode cX6_cheapestHoliday 55 = .ok (.iconst (-1), 1) := by decide +kernel
theorem dX6_cheapestHoliday_56 : decode cX6_cheapestHoliday 56 = .ok (.if_icmp .eq 10, 3) := by decide +kernel
theorem dX6_cheapestHoliday_59 : decode cX6_cheapestHoliday 59 = .ok (.iload 5, 2) := by decide +kernel
theorem dX6_cheapestHoliday_61 : decode cX6_cheapestHoliday 61 = .ok (.istore_n 3, 1) := by decide +kernel
theorem dX6_cheapestHoliday_62 : decode cX6_cheapestHoliday 62 = .ok (.iload 6, 2) := by decide +kernel
theorem dX6_cheapestHoliday_64 : decode cX6_cheapestHoliday 64 = .ok (.istore 4, 2) := by decide +kernel
theorem dX6_cheapestHoliday_66 : decode cX6_cheapestHoliday 66 = .ok (.iinc 5 1, 3) := by decide +kernel
theorem dX6_cheapestHoliday_69 : decode cX6_cheapestHoliday 69 = .ok (.goto (-43), 3) := by decide +kernel
theorem dX6_cheapestHoliday_72 : decode cX6_cheapestHoliday 72 = .ok (.iload_n 3, 1) := by decide +kernel
theorem dX6_cheapestHoliday_73 : decode cX6_cheapestHoliday 73 = .ok (.ireturn, 1) := by decide +kernel
theorem dX6_noteNeeds_0 : decode cX6_noteNeeds 0 = .ok (.iconst 0, 1) := by decide +kernel
theorem dX6_noteNeeds_1 : decode cX6_noteNeeds 1 = .ok (.istore_n 1, 1) := by decide +kernel
theorem dX6_noteNeeds_2 : decode cX6_noteNeeds 2 = .ok (.iload_n 1, 1) := by decide +kernel
theorem dX6_noteNeeds_3 : decode cX6_noteNeeds 3 = .ok (.aload_n 0, 1) := by decide +kernel
theorem dX6_noteNeeds_4 : decode cX6_noteNeeds 4 = .ok (.getfield 62, 3) := by decide +kernel
theorem dX6_noteNeeds_7 : decode cX6_noteNeeds 7 = .ok (.arraylength, 1) := by decide +kernel
theorem dX6_noteNeeds_8 : decode cX6_noteNeeds 8 = .ok (.if_icmp .ge 20, 3) := by decide +kernel
theorem dX6_noteNeeds_11 : decode cX6_noteNeeds 11 = .ok (.aload_n 0, 1) := by decide +kernel
theorem dX6_noteNeeds_12 : decode cX6_noteNeeds 12 = .ok (.getfield 62, 3) := by decide +kernel
theorem dX6_noteNeeds_15 : decode cX6_noteNeeds 15 = .ok (.iload_n 1, 1) := by decide +kernel
theorem dX6_noteNeeds_16 : decode cX6_noteNeeds 16 = .ok (.aload_n 0, 1) := by decide +kernel
theorem dX6_noteNeeds_17 : decode cX6_noteNeeds 17 = .ok (.iload_n 1, 1) := by decide +kernel
theorem dX6_noteNeeds_18 : decode cX6_noteNeeds 18 = .ok (.invokevirtual 185, 3) := by decide +kernel
theorem dX6_noteNeeds_21 : decode cX6_noteNeeds 21 = .ok (.iastore, 1) := by decide +kernel
theorem dX6_noteNeeds_22 : decode cX6_noteNeeds 22 = .ok (.iinc 1 1, 3) := by decide +kernel
theorem dX6_noteNeeds_25 : decode cX6_noteNeeds 25 = .ok (.goto (-23), 3) := by decide +kernel
theorem dX6_noteNeeds_28 : decode cX6_noteNeeds 28 = .ok (.return_, 1) := by decide +kernel
theorem dX6_shortageOf_0 : decode cX6_shortageOf 0 = .ok (.iconst 0, 1) := by decide +kernel
theorem dX6_shortageOf_1 : decode cX6_shortageOf 1 = .ok (.istore 4, 2) := by decide +kernel
theorem dX6_shortageOf_3 : decode cX6_shortageOf 3 = .ok (.iload_n 1, 1) := by decide +kernel
theorem dX6_shortageOf_4 : decode cX6_shortageOf 4 = .ok (.iconst 0, 1) := by decide +kernel
theorem dX6_shortageOf_5 : decode cX6_shortageOf 5 = .ok (.invokestatic 174, 3) := by decide +kernel
theorem dX6_shortageOf_8 : decode cX6_shortageOf 8 = .ok (.istore 5, 2) := by decide +kernel
theorem dX6_shortageOf_10 : decode cX6_shortageOf 10 = .ok (.iload 5, 2) := by decide +kernel
theorem dX6_shortageOf_12 : decode cX6_shortageOf 12 = .ok (.istore 6, 2) := by decide +kernel
theorem dX6_shortageOf_14 : decode cX6_shortageOf 14 = .ok (.iload 6, 2) := by decide +kernel
theorem dX6_shortageOf_16 : decode cX6_shortageOf 16 = .ok (.iload 5, 2) := by decide +kernel
theorem dX6_shortageOf_18 : decode cX6_shortageOf 18 = .ok (.bipush 10, 2) := by decide +kernel
theorem dX6_shortageOf_20 : decode cX6_shortageOf 20 = .ok (.iadd, 1) := by decide +kernel
theorem dX6_shortageOf_21 : decode cX6_shortageOf 21 = .ok (.if_icmp .ge 32, 3) := by decide +kernel
theorem dX6_shortageOf_24 : decode cX6_shortageOf 24 = .ok (.iload 4, 2) := by decide +kernel
theorem dX6_shortageOf_26 : decode cX6_shortageOf 26 = .ok (.aload_n 0, 1) := by decide +kernel
theorem dX6_shortageOf_27 : decode cX6_shortageOf 27 = .ok (.getfield 62, 3) := by decide +kernel
theorem dX6_shortageOf_30 : decode cX6_shortageOf 30 = .ok (.iload 6, 2) := by decide +kernel
theorem dX6_shortageOf_32 : decode cX6_shortageOf 32 = .ok (.iaload, 1) := by decide +kernel
theorem dX6_shortageOf_33 : decode cX6_shortageOf 33 = .ok (.aload_n 0, 1) := by decide +kernel
theorem dX6_shortageOf_34 : decode cX6_shortageOf 34 = .ok (.iload 6, 2) := by decide +kernel
theorem dX6_shortageOf_36 : decode cX6_shortageOf 36 = .ok (.iload_n 2, 1) := by decide +kernel
theorem dX6_shortageOf_37 : decode cX6_shortageOf 37 = .ok (.iload_n 3, 1) := by decide +kernel
theorem dX6_shortageOf_38 : decode cX6_shortageOf 38 = .ok (.invokevirtual 255, 3) := by decide +kernel
theorem dX6_shortageOf_41 : decode cX6_shortageOf 41 = .ok (.isub, 1) := by decide +kernel
theorem dX6_shortageOf_42 : decode cX6_shortageOf 42 = .ok (.invokestatic 258, 3) := by decide +kernel
theorem dX6_shortageOf_45 : decode cX6_shortageOf 45 = .ok (.istore 4, 2) := by decide +kernel
theorem dX6_shortageOf_47 : decode cX6_shortageOf 47 = .ok (.iinc 6 1, 3) := by decide +kernel
theorem dX6_shortageOf_50 : decode cX6_shortageOf 50 = .ok (.goto (-36), 3) := by decide +kernel
theorem dX6_shortageOf_53 : decode cX6_shortageOf 53 = .ok (.iload 4, 2) := by decide +kernel
theorem dX6_shortageOf_55 : decode cX6_shortageOf 55 = .ok (.ireturn, 1) := by decide +kernel
theorem dX6_staffLeft_0 : decode cX6_staffLeft 0 = .ok (.iconst 0, 1) := by decide +kernel
theorem dX6_staffLeft_1 : decode cX6_staffLeft 1 = .ok (.istore 4, 2) := by decide +kernel
theorem dX6_staffLeft_3 : decode cX6_staffLeft 3 = .ok (.iconst 0, 1) := by decide +kernel
theorem dX6_staffLeft_4 : decode cX6_staffLeft 4 = .ok (.istore 5, 2) := by decide +kernel
theorem dX6_staffLeft_6 : decode cX6_staffLeft 6 = .ok (.iload 5, 2) := by decide +kernel
theorem dX6_staffLeft_8 : decode cX6_staffLeft 8 = .ok (.aload_n 0, 1) := by decide +kernel
theorem dX6_staffLeft_9 : decode cX6_staffLeft 9 = .ok (.getfield 17, 3) := by decide +kernel
theorem dX6_staffLeft_12 : decode cX6_staffLeft 12 = .ok (.arraylength, 1) := by decide +kernel
theorem dX6_staffLeft_13 : decode cX6_staffLeft 13 = .ok (.if_icmp .ge 53, 3) := by decide +kernel
theorem dX6_staffLeft_16 : decode cX6_staffLeft 16 = .ok (.aload_n 0, 1) := by decide +kernel
theorem dX6_staffLeft_17 : decode cX6_staffLeft 17 = .ok (.getfield 17, 3) := by decide +kernel
theorem dX6_staffLeft_20 : decode cX6_staffLeft 20 = .ok (.iload 5, 2) := by decide +kernel
theorem dX6_staffLeft_22 : decode cX6_staffLeft 22 = .ok (.aaload, 1) := by decide +kernel
theorem dX6_staffLeft_23 : decode cX6_staffLeft 23 = .ok (.astore 6, 2) := by decide +kernel
theorem dX6_staffLeft_25 : decode cX6_staffLeft 25 = .ok (.aload 6, 2) := by decide +kernel
theorem dX6_staffLeft_27 : decode cX6_staffLeft 27 = .ok (.ifnull 33, 3) := by decide +kernel
theorem dX6_staffLeft_30 : decode cX6_staffLeft 30 = .ok (.iload 5, 2) := by decide +kernel
theorem dX6_staffLeft_32 : decode cX6_staffLeft 32 = .ok (.iload_n 3, 1) := by decide +kernel
theorem dX6_staffLeft_33 : decode cX6_staffLeft 33 = .ok (.if_icmp .eq 27, 3) := by decide +kernel
theorem dX6_staffLeft_36 : decode cX6_staffLeft 36 = .ok (.aload 6, 2) := by decide +kernel
theorem dX6_staffLeft_38 : decode cX6_staffLeft 38 = .ok (.iload_n 2, 1) := by decide +kernel
theorem dX6_staffLeft_39 : decode cX6_staffLeft 39 = .ok (.invokevirtual 252, 3) := by decide +kernel
theorem dX6_staffLeft_42 : decode cX6_staffLeft 42 = .ok (.ifCond .ne 18, 3) := by decide +kernel
theorem dX6_staffLeft_45 : decode cX6_staffLeft 45 = .ok (.aload 6, 2) := by decide +kernel
theorem dX6_staffLeft_47 : decode cX6_staffLeft 47 = .ok (.getfield 153, 3) := by decide +kernel
theorem dX6_staffLeft_50 : decode cX6_staffLeft 50 = .ok (.iload_n 1, 1) := by decide +kernel
theorem dX6_staffLeft_51 : decode cX6_staffLeft 51 = .ok (.invokestatic 205, 3) := by decide +kernel
theorem dX6_staffLeft_54 : decode cX6_staffLeft 54 = .ok (.ifCond .eq 6, 3) := by decide +kernel
theorem dX6_staffLeft_57 : decode cX6_staffLeft 57 = .ok (.iinc 4 1, 3) := by decide +kernel
theorem dX6_staffLeft_60 : decode cX6_staffLeft 60 = .ok (.iinc 5 1, 3) := by decide +kernel
theorem dX6_staffLeft_63 : decode cX6_staffLeft 63 = .ok (.goto (-57), 3) := by decide +kernel
theorem dX6_staffLeft_66 : decode cX6_staffLeft 66 = .ok (.iload 4, 2) := by decide +kernel
theorem dX6_staffLeft_68 : decode cX6_staffLeft 68 = .ok (.ireturn, 1) := by decide +kernel
theorem dX6_leastCostBelow_0 : decode cX6_leastCostBelow 0 = .ok (.iconst 0, 1) := by decide +kernel
theorem dX6_leastCostBelow_1 : decode cX6_leastCostBelow 1 = .ok (.istore 4, 2) := by decide +kernel
theorem dX6_leastCostBelow_3 : decode cX6_leastCostBelow 3 = .ok (.iload 4, 2) := by decide +kernel
theorem dX6_leastCostBelow_5 : decode cX6_leastCostBelow 5 = .ok (.iconst 5, 1) := by decide +kernel
theorem dX6_leastCostBelow_6 : decode cX6_leastCostBelow 6 = .ok (.if_icmp .ge 27, 3) := by decide +kernel
theorem dX6_leastCostBelow_9 : decode cX6_leastCostBelow 9 = .ok (.aload_n 0, 1) := by decide +kernel
theorem dX6_leastCostBelow_10 : decode cX6_leastCostBelow 10 = .ok (.getfield 48, 3) := by decide +kernel
theorem dX6_leastCostBelow_13 : decode cX6_leastCostBelow 13 = .ok (.getfield 263, 3) := by decide +kernel
theorem dX6_leastCostBelow_16 : decode cX6_leastCostBelow 16 = .ok (.iload 4, 2) := by decide +kernel
theorem dX6_leastCostBelow_18 : decode cX6_leastCostBelow 18 = .ok (.aload_n 0, 1) := by decide +kernel
theorem dX6_leastCostBelow_19 : decode cX6_leastCostBelow 19 = .ok (.iload 4, 2) := by decide +kernel
theorem dX6_leastCostBelow_21 : decode cX6_leastCostBelow 21 = .ok (.iload_n 2, 1) := by decide +kernel
theorem dX6_leastCostBelow_22 : decode cX6_leastCostBelow 22 = .ok (.iload_n 3, 1) := by decide +kernel
theorem dX6_leastCostBelow_23 : decode cX6_leastCostBelow 23 = .ok (.invokevirtual 242, 3) := by decide +kernel
theorem dX6_leastCostBelow_26 : decode cX6_leastCostBelow 26 = .ok (.iastore, 1) := by decide +kernel
theorem dX6_leastCostBelow_27 : decode cX6_leastCostBelow 27 = .ok (.iinc 4 1, 3) := by decide +kernel
theorem dX6_leastCostBelow_30 : decode cX6_leastCostBelow 30 = .ok (.goto (-27), 3) := by decide +kernel
theorem dX6_leastCostBelow_33 : decode cX6_leastCostBelow 33 = .ok (.aload_n 0, 1) := by decide +kernel
theorem dX6_leastCostBelow_34 : decode cX6_leastCostBelow 34 = .ok (.getfield 48, 3) := by decide +kernel
theorem dX6_leastCostBelow_37 : decode cX6_leastCostBelow 37 = .ok (.iload_n 1, 1) := by decide +kernel
theorem dX6_leastCostBelow_38 : decode cX6_leastCostBelow 38 = .ok (.invokevirtual 266, 3) := by decide +kernel
theorem dX6_leastCostBelow_41 : decode cX6_leastCostBelow 41 = .ok (.ireturn, 1) := by decide +kernel
theorem dX6_isDay_0 : decode cX6_isDay 0 = .ok (.iload_n 0, 1) := by decide +kernel
theorem dX6_isDay_1 : decode cX6_isDay 1 = .ok (.ifCond .lt 12, 3) := by decide +kernel
theorem dX6_isDay_4 : decode cX6_isDay 4 = .ok (.iload_n 0, 1) := by decide +kernel
theorem dX6_isDay_5 : decode cX6_isDay 5 = .ok (.iconst 5, 1) := by decide +kernel
theorem dX6_isDay_6 : decode cX6_isDay 6 = .ok (.if_icmp .ge 7, 3) := by decide +kernel
theorem dX6_isDay_9 : decode cX6_isDay 9 = .ok (.iconst 1, 1) := by decide +kernel
theorem dX6_isDay_10 : decode cX6_isDay 10 = .ok (.goto 4, 3) := by decide +kernel
theorem dX6_isDay_13 : decode cX6_isDay 13 = .ok (.iconst 0, 1) := by decide +kernel
theorem dX6_isDay_14 : decode cX6_isDay 14 = .ok (.ireturn, 1) := by decide +kernel
theorem dX6_isHour_0 : decode cX6_isHour 0 = .ok (.iload_n 0, 1) := by decide +kernel
theorem dX6_isHour_1 : decode cX6_isHour 1 = .ok (.ifCond .lt 13, 3) := by decide +kernel
theorem dX6_isHour_4 : decode cX6_isHour 4 = .ok (.iload_n 0, 1) := by decide +kernel
theorem dX6_isHour_5 : decode cX6_isHour 5 = .ok (.bipush 10, 2) := by decide +kernel
theorem dX6_isHour_7 : decode cX6_isHour 7 = .ok (.if_icmp .ge 7, 3) := by decide +kernel
theorem dX6_isHour_10 : decode cX6_isHour 10 = .ok (.iconst 1, 1) := by decide +kernel
theorem dX6_isHour_11 : decode cX6_isHour 11 = .ok (.goto 4, 3) := by decide +kernel
theorem dX6_isHour_14 : decode cX6_isHour 14 = .ok (.iconst 0, 1) := by decide +kernel
theorem dX6_isHour_15 : decode cX6_isHour 15 = .ok (.ireturn, 1) := by decide +kernel
theorem dX6_isWeek_0 : decode cX6_isWeek 0 = .ok (.iload_n 0, 1) := by decide +kernel
theorem dX6_isWeek_1 : decode cX6_isWeek 1 = .ok (.ifCond .lt 13, 3) := by decide +kernel
theorem dX6_isWeek_4 : decode cX6_isWeek 4 = .ok (.iload_n 0, 1) := by decide +kernel
theorem dX6_isWeek_5 : decode cX6_isWeek 5 = .ok (.bipush 52, 2) := by decide +kernel
theorem dX6_isWeek_7 : decode cX6_isWeek 7 = .ok (.if_icmp .ge 7, 3) := by decide +kernel
theorem dX6_isWeek_10 : decode cX6_isWeek 10 = .ok (.iconst 1, 1) := by decide +kernel
theorem dX6_isWeek_11 : decode cX6_isWeek 11 = .ok (.goto 4, 3) := by decide +kernel
theorem dX6_isWeek_14 : decode cX6_isWeek 14 = .ok (.iconst 0, 1) := by decide +kernel
theorem dX6_isWeek_15 : decode cX6_isWeek 15 = .ok (.ireturn, 1) := by decide +kernel
theorem dX6_isGroup_0 : decode cX6_isGroup 0 = .ok (.iload_n 0, 1) := by decide +kernel
theorem dX6_isGroup_1 : decode cX6_isGroup 1 = .ok (.ifCond .lt 12, 3) := by decide +kernel
theorem dX6_isGroup_4 : decode cX6_isGroup 4 = .ok (.iload_n 0, 1) := by decide +kernel
theorem dX6_isGroup_5 : decode cX6_isGroup 5 = .ok (.iconst 3, 1) := by decide +kernel
theorem dX6_isGroup_6 : decode cX6_isGroup 6 = .ok (.if_icmp .ge 7, 3) := by decide +kernel
theorem dX6_isGroup_9 : decode cX6_isGroup 9 = .ok (.iconst 1, 1) := by decide +kernel
theorem dX6_isGroup_10 : decode cX6_isGroup 10 = .ok (.goto 4, 3) := by decide +kernel
theorem dX6_isGroup_13 : decode cX6_isGroup 13 = .ok (.iconst 0, 1) := by decide +kernel
theorem dX6_isGroup_14 : decode cX6_isGroup 14 = .ok (.ireturn, 1) := by decide +kernel
theorem dX6_isSpan_0 : decode cX6_isSpan 0 = .ok (.iload_n 0, 1) := by decide +kernel
theorem dX6_isSpan_1 : decode cX6_isSpan 1 = .ok (.ifCond .lt 18, 3) := by decide +kernel
theorem dX6_isSpan_4 : decode cX6_isSpan 4 = .ok (.iload_n 0, 1) := by decide +kernel
theorem dX6_isSpan_5 : decode cX6_isSpan 5 = .ok (.iload_n 1, 1) := by decide +kernel
theorem dX6_isSpan_6 : decode cX6_isSpan 6 = .ok (.if_icmp .gt 13, 3) := by decide +kernel
theorem dX6_isSpan_9 : decode cX6_isSpan 9 = .ok (.iload_n 1, 1) := by decide +kernel
theorem dX6_isSpan_10 : decode cX6_isSpan 10 = .ok (.bipush 10, 2) := by decide +kernel
theorem dX6_isSpan_12 : decode cX6_isSpan 12 = .ok (.if_icmp .gt 7, 3) := by decide +kernel
theorem dX6_isSpan_15 : decode cX6_isSpan 15 = .ok (.iconst 1, 1) := by decide +kernel
theorem dX6_isSpan_16 : decode cX6_isSpan 16 = .ok (.goto 4, 3) := by decide +kernel
theorem dX6_isSpan_19 : decode cX6_isSpan 19 = .ok (.iconst 0, 1) := by decide +kernel
theorem dX6_isSpan_20 : decode cX6_isSpan 20 = .ok (.ireturn, 1) := by decide +kernel
theorem dX6_hourOfWeek_0 : decode cX6_hourOfWeek 0 = .ok (.iload_n 0, 1) := by decide +kernel
theorem dX6_hourOfWeek_1 : decode cX6_hourOfWeek 1 = .ok (.bipush 10, 2) := by decide +kernel
theorem dX6_hourOfWeek_3 : decode cX6_hourOfWeek 3 = .ok (.imul, 1) := by decide +kernel
theorem dX6_hourOfWeek_4 : decode cX6_hourOfWeek 4 = .ok (.iload_n 1, 1) := by decide +kernel
theorem dX6_hourOfWeek_5 : decode cX6_hourOfWeek 5 = .ok (.iadd, 1) := by decide +kernel
theorem dX6_hourOfWeek_6 : decode cX6_hourOfWeek 6 = .ok (.ireturn, 1) := by decide +kernel
theorem dX6_hasHour_0 : decode cX6_hasHour 0 = .ok (.lload_n 0, 1) := by decide +kernel
theorem dX6_hasHour_1 : decode cX6_hasHour 1 = .ok (.iload_n 2, 1) := by decide +kernel
theorem dX6_hasHour_2 : decode cX6_hasHour 2 = .ok (.lushr, 1) := by decide +kernel
theorem dX6_hasHour_3 : decode cX6_hasHour 3 = .ok (.lconst 1, 1) := by decide +kernel
theorem dX6_hasHour_4 : decode cX6_hasHour 4 = .ok (.land, 1) := by decide +kernel
theorem dX6_hasHour_5 : decode cX6_hasHour 5 = .ok (.lconst 0, 1) := by decide +kernel
theorem dX6_hasHour_6 : decode cX6_hasHour 6 = .ok (.lcmp, 1) := by decide +kernel
theorem dX6_hasHour_7 : decode cX6_hasHour 7 = .ok (.ifCond .eq 7, 3) := by decide +kernel
theorem dX6_hasHour_10 : decode cX6_hasHour 10 = .ok (.iconst 1, 1) := by decide +kernel
theorem dX6_hasHour_11 : decode cX6_hasHour 11 = .ok (.goto 4, 3) := by decide +kernel
theorem dX6_hasHour_14 : decode cX6_hasHour 14 = .ok (.iconst 0, 1) := by decide +kernel
theorem dX6_hasHour_15 : decode cX6_hasHour 15 = .ok (.ireturn, 1) := by decide +kernel
theorem dX6_spanOf_0 : decode cX6_spanOf 0 = .ok (.lconst 1, 1) := by decide +kernel
theorem dX6_spanOf_1 : decode cX6_spanOf 1 = .ok (.iload_n 2, 1) := by decide +kernel
theorem dX6_spanOf_2 : decode cX6_spanOf 2 = .ok (.lshl, 1) := by decide +kernel
theorem dX6_spanOf_3 : decode cX6_spanOf 3 = .ok (.lconst 1, 1) := by decide +kernel
theorem dX6_spanOf_4 : decode cX6_spanOf 4 = .ok (.iload_n 1, 1) := by decide +kernel
theorem dX6_spanOf_5 : decode cX6_spanOf 5 = .ok (.lshl, 1) := by decide +kernel
theorem dX6_spanOf_6 : decode cX6_spanOf 6 = .ok (.lsub, 1) := by decide +kernel
theorem dX6_spanOf_7 : decode cX6_spanOf 7 = .ok (.lstore_n 3, 1) := by decide +kernel
theorem dX6_spanOf_8 : decode cX6_spanOf 8 = .ok (.lload_n 3, 1) := by decide +kernel
theorem dX6_spanOf_9 : decode cX6_spanOf 9 = .ok (.iload_n 0, 1) := by decide +kernel
theorem dX6_spanOf_10 : decode cX6_spanOf 10 = .ok (.iconst 0, 1) := by decide +kernel
theorem dX6_spanOf_11 : decode cX6_spanOf 11 = .ok (.invokestatic 174, 3) := by decide +kernel
theorem dX6_spanOf_14 : decode cX6_spanOf 14 = .ok (.lshl, 1) := by decide +kernel
theorem dX6_spanOf_15 : decode cX6_spanOf 15 = .ok (.lreturn, 1) := by decide +kernel
theorem dX6_withSpan_0 : decode cX6_withSpan 0 = .ok (.lload_n 0, 1) := by decide +kernel
theorem dX6_withSpan_1 : decode cX6_withSpan 1 = .ok (.iload_n 2, 1) := by decide +kernel
theorem dX6_withSpan_2 : decode cX6_withSpan 2 = .ok (.iconst 0, 1) := by decide +kernel
theorem dX6_withSpan_3 : decode cX6_withSpan 3 = .ok (.bipush 10, 2) := by decide +kernel
theorem dX6_withSpan_5 : decode cX6_withSpan 5 = .ok (.invokestatic 306, 3) := by decide +kernel
theorem dX6_withSpan_8 : decode cX6_withSpan 8 = .ok (.ldc2_w 108, 3) := by decide +kernel
theorem dX6_withSpan_11 : decode cX6_withSpan 11 = .ok (.lxor, 1) := by decide +kernel
theorem dX6_withSpan_12 : decode cX6_withSpan 12 = .ok (.land, 1) := by decide +kernel
theorem dX6_withSpan_13 : decode cX6_withSpan 13 = .ok (.iload_n 2, 1) := by decide +kernel
theorem dX6_withSpan_14 : decode cX6_withSpan 14 = .ok (.iload_n 3, 1) := by decide +kernel
theorem dX6_withSpan_15 : decode cX6_withSpan 15 = .ok (.iload 4, 2) := by decide +kernel
theorem dX6_withSpan_17 : decode cX6_withSpan 17 = .ok (.invokestatic 306, 3) := by decide +kernel
theorem dX6_withSpan_20 : decode cX6_withSpan 20 = .ok (.lor, 1) := by decide +kernel
theorem dX6_withSpan_21 : decode cX6_withSpan 21 = .ok (.lreturn, 1) := by decide +kernel
theorem dJ6_bitCount_0f7a4_0 : decode cJ6_bitCount_0f7a4 0 = .ok (.iload_n 0, 1) := by decide +kernel
theorem dJ6_bitCount_0f7a4_1 : decode cJ6_bitCount_0f7a4 1 = .ok (.iload_n 0, 1) := by decide +kernel
theorem dJ6_bitCount_0f7a4_2 : decode cJ6_bitCount_0f7a4 2 = .ok (.iconst 1, 1) := by decide +kernel
theorem dJ6_bitCount_0f7a4_3 : decode cJ6_bitCount_0f7a4 3 = .ok (.iushr, 1) := by decide +kernel
theorem dJ6_bitCount_0f7a4_4 : decode cJ6_bitCount_0f7a4 4 = .ok (.ldc_w 265, 3) := by decide +kernel
theorem dJ6_bitCount_0f7a4_7 : decode cJ6_bitCount_0f7a4 7 = .ok (.iand, 1) := by decide +kernel
theorem dJ6_bitCount_0f7a4_8 : decode cJ6_bitCount_0f7a4 8 = .ok (.isub, 1) := by decide +kernel
theorem dJ6_bitCount_0f7a4_9 : decode cJ6_bitCount_0f7a4 9 = .ok (.istore_n 0, 1) := by decide +kernel
theorem dJ6_bitCount_0f7a4_10 : decode cJ6_bitCount_0f7a4 10 = .ok (.iload_n 0, 1) := by decide +kernel
theorem dJ6_bitCount_0f7a4_11 : decode cJ6_bitCount_0f7a4 11 = .ok (.ldc_w 266, 3) := by decide +kernel
theorem dJ6_bitCount_0f7a4_14 : decode cJ6_bitCount_0f7a4 14 = .ok (.iand, 1) := by decide +kernel
theorem dJ6_bitCount_0f7a4_15 : decode cJ6_bitCount_0f7a4 15 = .ok (.iload_n 0, 1) := by decide +kernel
theorem dJ6_bitCount_0f7a4_16 : decode cJ6_bitCount_0f7a4 16 = .ok (.iconst 2, 1) := by decide +kernel
theorem dJ6_bitCount_0f7a4_17 : decode cJ6_bitCount_0f7a4 17 = .ok (.iushr, 1) := by decide +kernel
theorem dJ6_bitCount_0f7a4_18 : decode cJ6_bitCount_0f7a4 18 = .ok (.ldc_w 266, 3) := by decide +kernel
theorem dJ6_bitCount_0f7a4_21 : decode cJ6_bitCount_0f7a4 21 = .ok (.iand, 1) := by decide +kernel
theorem dJ6_bitCount_0f7a4_22 : decode cJ6_bitCount_0f7a4 22 = .ok (.iadd, 1) := by decide +kernel
theorem dJ6_bitCount_0f7a4_23 : decode cJ6_bitCount_0f7a4 23 = .ok (.istore_n 0, 1) := by decide +kernel
theorem dJ6_bitCount_0f7a4_24 : decode cJ6_bitCount_0f7a4 24 = .ok (.iload_n 0, 1) := by decide +kernel
theorem dJ6_bitCount_0f7a4_25 : decode cJ6_bitCount_0f7a4 25 = .ok (.iload_n 0, 1) := by decide +kernel
theorem dJ6_bitCount_0f7a4_26 : decode cJ6_bitCount_0f7a4 26 = .ok (.iconst 4, 1) := by decide +kernel
theorem dJ6_bitCount_0f7a4_27 : decode cJ6_bitCount_0f7a4 27 = .ok (.iushr, 1) := by decide +kernel
theorem dJ6_bitCount_0f7a4_28 : decode cJ6_bitCount_0f7a4 28 = .ok (.iadd, 1) := by decide +kernel
theorem dJ6_bitCount_0f7a4_29 : decode cJ6_bitCount_0f7a4 29 = .ok (.ldc_w 267, 3) := by decide +kernel
theorem dJ6_bitCount_0f7a4_32 : decode cJ6_bitCount_0f7a4 32 = .ok (.iand, 1) := by decide +kernel
theorem dJ6_bitCount_0f7a4_33 : decode cJ6_bitCount_0f7a4 33 = .ok (.istore_n 0, 1) := by decide +kernel
theorem dJ6_bitCount_0f7a4_34 : decode cJ6_bitCount_0f7a4 34 = .ok (.iload_n 0, 1) := by decide +kernel
theorem dJ6_bitCount_0f7a4_35 : decode cJ6_bitCount_0f7a4 35 = .ok (.iload_n 0, 1) := by decide +kernel
theorem dJ6_bitCount_0f7a4_36 : decode cJ6_bitCount_0f7a4 36 = .ok (.bipush 8, 2) := by decide +kernel
theorem dJ6_bitCount_0f7a4_38 : decode cJ6_bitCount_0f7a4 38 = .ok (.iushr, 1) := by decide +kernel
theorem dJ6_bitCount_0f7a4_39 : decode cJ6_bitCount_0f7a4 39 = .ok (.iadd, 1) := by decide +kernel
theorem dJ6_bitCount_0f7a4_40 : decode cJ6_bitCount_0f7a4 40 = .ok (.istore_n 0, 1) := by decide +kernel
theorem dJ6_bitCount_0f7a4_41 : decode cJ6_bitCount_0f7a4 41 = .ok (.iload_n 0, 1) := by decide +kernel
theorem dJ6_bitCount_0f7a4_42 : decode cJ6_bitCount_0f7a4 42 = .ok (.iload_n 0, 1) := by decide +kernel
theorem dJ6_bitCount_0f7a4_43 : decode cJ6_bitCount_0f7a4 43 = .ok (.bipush 16, 2) := by decide +kernel
theorem dJ6_bitCount_0f7a4_45 : decode cJ6_bitCount_0f7a4 45 = .ok (.iushr, 1) := by decide +kernel
theorem dJ6_bitCount_0f7a4_46 : decode cJ6_bitCount_0f7a4 46 = .ok (.iadd, 1) := by decide +kernel
theorem dJ6_bitCount_0f7a4_47 : decode cJ6_bitCount_0f7a4 47 = .ok (.istore_n 0, 1) := by decide +kernel
theorem dJ6_bitCount_0f7a4_48 : decode cJ6_bitCount_0f7a4 48 = .ok (.iload_n 0, 1) := by decide +kernel
theorem dJ6_bitCount_0f7a4_49 : decode cJ6_bitCount_0f7a4 49 = .ok (.bipush 63, 2) := by decide +kernel
theorem dJ6_bitCount_0f7a4_51 : decode cJ6_bitCount_0f7a4 51 = .ok (.iand, 1) := by decide +kernel
theorem dJ6_bitCount_0f7a4_52 : decode cJ6_bitCount_0f7a4 52 = .ok (.ireturn, 1) := by decide +kernel
theorem dJ13_bitCount_95d88_0 : decode cJ13_bitCount_95d88 0 = .ok (.lload_n 0, 1) := by decide +kernel
theorem dJ13_bitCount_95d88_1 : decode cJ13_bitCount_95d88 1 = .ok (.lload_n 0, 1) := by decide +kernel
theorem dJ13_bitCount_95d88_2 : decode cJ13_bitCount_95d88 2 = .ok (.iconst 1, 1) := by decide +kernel
theorem dJ13_bitCount_95d88_3 : decode cJ13_bitCount_95d88 3 = .ok (.lushr, 1) := by decide +kernel
theorem dJ13_bitCount_95d88_4 : decode cJ13_bitCount_95d88 4 = .ok (.ldc2_w 314, 3) := by decide +kernel
theorem dJ13_bitCount_95d88_7 : decode cJ13_bitCount_95d88 7 = .ok (.land, 1) := by decide +kernel
theorem dJ13_bitCount_95d88_8 : decode cJ13_bitCount_95d88 8 = .ok (.lsub, 1) := by decide +kernel
theorem dJ13_bitCount_95d88_9 : decode cJ13_bitCount_95d88 9 = .ok (.lstore_n 0, 1) := by decide +kernel
theorem dJ13_bitCount_95d88_10 : decode cJ13_bitCount_95d88 10 = .ok (.lload_n 0, 1) := by decide +kernel
theorem dJ13_bitCount_95d88_11 : decode cJ13_bitCount_95d88 11 = .ok (.ldc2_w 316, 3) := by decide +kernel
theorem dJ13_bitCount_95d88_14 : decode cJ13_bitCount_95d88 14 = .ok (.land, 1) := by decide +kernel
theorem dJ13_bitCount_95d88_15 : decode cJ13_bitCount_95d88 15 = .ok (.lload_n 0, 1) := by decide +kernel
theorem dJ13_bitCount_95d88_16 : decode cJ13_bitCount_95d88 16 = .ok (.iconst 2, 1) := by decide +kernel
theorem dJ13_bitCount_95d88_17 : decode cJ13_bitCount_95d88 17 = .ok (.lushr, 1) := by decide +kernel
theorem dJ13_bitCount_95d88_18 : decode cJ13_bitCount_95d88 18 = .ok (.ldc2_w 316, 3) := by decide +kernel
theorem dJ13_bitCount_95d88_21 : decode cJ13_bitCount_95d88 21 = .ok (.land, 1) := by decide +kernel
theorem dJ13_bitCount_95d88_22 : decode cJ13_bitCount_95d88 22 = .ok (.ladd, 1) := by decide +kernel
theorem dJ13_bitCount_95d88_23 : decode cJ13_bitCount_95d88 23 = .ok (.lstore_n 0, 1) := by decide +kernel
theorem dJ13_bitCount_95d88_24 : decode cJ13_bitCount_95d88 24 = .ok (.lload_n 0, 1) := by decide +kernel
theorem dJ13_bitCount_95d88_25 : decode cJ13_bitCount_95d88 25 = .ok (.lload_n 0, 1) := by decide +kernel
theorem dJ13_bitCount_95d88_26 : decode cJ13_bitCount_95d88 26 = .ok (.iconst 4, 1) := by decide +kernel
theorem dJ13_bitCount_95d88_27 : decode cJ13_bitCount_95d88 27 = .ok (.lushr, 1) := by decide +kernel
theorem dJ13_bitCount_95d88_28 : decode cJ13_bitCount_95d88 28 = .ok (.ladd, 1) := by decide +kernel
theorem dJ13_bitCount_95d88_29 : decode cJ13_bitCount_95d88 29 = .ok (.ldc2_w 318, 3) := by decide +kernel
theorem dJ13_bitCount_95d88_32 : decode cJ13_bitCount_95d88 32 = .ok (.land, 1) := by decide +kernel
theorem dJ13_bitCount_95d88_33 : decode cJ13_bitCount_95d88 33 = .ok (.lstore_n 0, 1) := by decide +kernel
theorem dJ13_bitCount_95d88_34 : decode cJ13_bitCount_95d88 34 = .ok (.lload_n 0, 1) := by decide +kernel
theorem dJ13_bitCount_95d88_35 : decode cJ13_bitCount_95d88 35 = .ok (.lload_n 0, 1) := by decide +kernel
theorem dJ13_bitCount_95d88_36 : decode cJ13_bitCount_95d88 36 = .ok (.bipush 8, 2) := by decide +kernel
theorem dJ13_bitCount_95d88_38 : decode cJ13_bitCount_95d88 38 = .ok (.lushr, 1) := by decide +kernel
theorem dJ13_bitCount_95d88_39 : decode cJ13_bitCount_95d88 39 = .ok (.ladd, 1) := by decide +kernel
theorem dJ13_bitCount_95d88_40 : decode cJ13_bitCount_95d88 40 = .ok (.lstore_n 0, 1) := by decide +kernel
theorem dJ13_bitCount_95d88_41 : decode cJ13_bitCount_95d88 41 = .ok (.lload_n 0, 1) := by decide +kernel
theorem dJ13_bitCount_95d88_42 : decode cJ13_bitCount_95d88 42 = .ok (.lload_n 0, 1) := by decide +kernel
theorem dJ13_bitCount_95d88_43 : decode cJ13_bitCount_95d88 43 = .ok (.bipush 16, 2) := by decide +kernel
theorem dJ13_bitCount_95d88_45 : decode cJ13_bitCount_95d88 45 = .ok (.lushr, 1) := by decide +kernel
theorem dJ13_bitCount_95d88_46 : decode cJ13_bitCount_95d88 46 = .ok (.ladd, 1) := by decide +kernel
theorem dJ13_bitCount_95d88_47 : decode cJ13_bitCount_95d88 47 = .ok (.lstore_n 0, 1) := by decide +kernel
theorem dJ13_bitCount_95d88_48 : decode cJ13_bitCount_95d88 48 = .ok (.lload_n 0, 1) := by decide +kernel
theorem dJ13_bitCount_95d88_49 : decode cJ13_bitCount_95d88 49 = .ok (.lload_n 0, 1) := by decide +kernel
theorem dJ13_bitCount_95d88_50 : decode cJ13_bitCount_95d88 50 = .ok (.bipush 32, 2) := by decide +kernel
theorem dJ13_bitCount_95d88_52 : decode cJ13_bitCount_95d88 52 = .ok (.lushr, 1) := by decide +kernel
theorem dJ13_bitCount_95d88_53 : decode cJ13_bitCount_95d88 53 = .ok (.ladd, 1) := by decide +kernel
theorem dJ13_bitCount_95d88_54 : decode cJ13_bitCount_95d88 54 = .ok (.lstore_n 0, 1) := by decide +kernel
theorem dJ13_bitCount_95d88_55 : decode cJ13_bitCount_95d88 55 = .ok (.lload_n 0, 1) := by decide +kernel
theorem dJ13_bitCount_95d88_56 : decode cJ13_bitCount_95d88 56 = .ok (.l2i, 1) := by decide +kernel
theorem dJ13_bitCount_95d88_57 : decode cJ13_bitCount_95d88 57 = .ok (.bipush 127, 2) := by decide +kernel
theorem dJ13_bitCount_95d88_59 : decode cJ13_bitCount_95d88 59 = .ok (.iand, 1) := by decide +kernel
theorem dJ13_bitCount_95d88_60 : decode cJ13_bitCount_95d88 60 = .ok (.ireturn, 1) := by decide +kernel
theorem dJ9_max_7cf53_0 : decode cJ9_max_7cf53 0 = .ok (.iload_n 0, 1) := by decide +kernel
theorem dJ9_max_7cf53_1 : decode cJ9_max_7cf53 1 = .ok (.iload_n 1, 1) := by decide +kernel
theorem dJ9_max_7cf53_2 : decode cJ9_max_7cf53 2 = .ok (.if_icmp .lt 7, 3) := by decide +kernel
theorem dJ9_max_7cf53_5 : decode cJ9_max_7cf53 5 = .ok (.iload_n 0, 1) := by decide +kernel
theorem dJ9_max_7cf53_6 : decode cJ9_max_7cf53 6 = .ok (.goto 4, 3) := by decide +kernel
theorem dJ9_max_7cf53_9 : decode cJ9_max_7cf53 9 = .ok (.iload_n 1, 1) := by decide +kernel
theorem dJ9_max_7cf53_10 : decode cJ9_max_7cf53 10 = .ok (.ireturn, 1) := by decide +kernel
theorem dL_cell_0 : decode cL_cell 0 = .ok (.iload_n 1, 1) := by decide +kernel
theorem dL_cell_1 : decode cL_cell 1 = .ok (.aload_n 0, 1) := by decide +kernel
theorem dL_cell_2 : decode cL_cell 2 = .ok (.arraylength, 1) := by decide +kernel
theorem dL_cell_3 : decode cL_cell 3 = .ok (.if_icmp .ge 9, 3) := by decide +kernel
theorem dL_cell_6 : decode cL_cell 6 = .ok (.aload_n 0, 1) := by decide +kernel
theorem dL_cell_7 : decode cL_cell 7 = .ok (.iload_n 1, 1) := by decide +kernel
theorem dL_cell_8 : decode cL_cell 8 = .ok (.iaload, 1) := by decide +kernel
theorem dL_cell_9 : decode cL_cell 9 = .ok (.goto 12, 3) := by decide +kernel
theorem dL_cell_12 : decode cL_cell 12 = .ok (.ldc 7, 2) := by decide +kernel
theorem dL_cell_14 : decode cL_cell 14 = .ok (.iload_n 1, 1) := by decide +kernel
theorem dL_cell_15 : decode cL_cell 15 = .ok (.iconst 1, 1) := by decide +kernel
theorem dL_cell_16 : decode cL_cell 16 = .ok (.iadd, 1) := by decide +kernel
theorem dL_cell_17 : decode cL_cell 17 = .ok (.imul, 1) := by decide +kernel
theorem dL_cell_18 : decode cL_cell 18 = .ok (.ldc 8, 2) := by decide +kernel
theorem dL_cell_20 : decode cL_cell 20 = .ok (.iadd, 1) := by decide +kernel
theorem dL_cell_21 : decode cL_cell 21 = .ok (.ireturn, 1) := by decide +kernel
theorem dL_low_0 : decode cL_low 0 = .ok (.iload_n 0, 1) := by decide +kernel
theorem dL_low_1 : decode cL_low 1 = .ok (.ldc 9, 2) := by decide +kernel
theorem dL_low_3 : decode cL_low 3 = .ok (.iand, 1) := by decide +kernel
theorem dL_low_4 : decode cL_low 4 = .ok (.iload_n 1, 1) := by decide +kernel
theorem dL_low_5 : decode cL_low 5 = .ok (.irem, 1) := by decide +kernel
theorem dL_low_6 : decode cL_low 6 = .ok (.ireturn, 1) := by decide +kernel
theorem dL_group_0 : decode cL_group 0 = .ok (.iload_n 0, 1) := by decide +kernel
theorem dL_group_1 : decode cL_group 1 = .ok (.bipush 24, 2) := by decide +kernel
theorem dL_group_3 : decode cL_group 3 = .ok (.if_icmp .ge 7, 3) := by decide +kernel
theorem dL_group_6 : decode cL_group 6 = .ok (.iconst 0, 1) := by decide +kernel
theorem dL_group_7 : decode cL_group 7 = .ok (.goto 14, 3) := by decide +kernel
theorem dL_group_10 : decode cL_group 10 = .ok (.iload_n 0, 1) := by decide +kernel
theorem dL_group_11 : decode cL_group 11 = .ok (.bipush 36, 2) := by decide +kernel
theorem dL_group_13 : decode cL_group 13 = .ok (.if_icmp .ge 7, 3) := by decide +kernel
theorem dL_group_16 : decode cL_group 16 = .ok (.iconst 1, 1) := by decide +kernel
theorem dL_group_17 : decode cL_group 17 = .ok (.goto 4, 3) := by decide +kernel
theorem dL_group_20 : decode cL_group 20 = .ok (.iconst 2, 1) := by decide +kernel
theorem dL_group_21 : decode cL_group 21 = .ok (.ireturn, 1) := by decide +kernel
theorem dL_in_0 : decode cL_in 0 = .ok (.aload_n 3, 1) := by decide +kernel
theorem dL_in_1 : decode cL_in 1 = .ok (.iload_n 2, 1) := by decide +kernel
theorem dL_in_2 : decode cL_in 2 = .ok (.iconst 2, 1) := by decide +kernel
theorem dL_in_3 : decode cL_in 3 = .ok (.iload_n 0, 1) := by decide +kernel
theorem dL_in_4 : decode cL_in 4 = .ok (.imul, 1) := by decide +kernel
theorem dL_in_5 : decode cL_in 5 = .ok (.iadd, 1) := by decide +kernel
theorem dL_in_6 : decode cL_in 6 = .ok (.iaload, 1) := by decide +kernel
theorem dL_in_7 : decode cL_in 7 = .ok (.iload_n 1, 1) := by decide +kernel
theorem dL_in_8 : decode cL_in 8 = .ok (.if_icmp .gt 20, 3) := by decide +kernel
theorem dL_in_11 : decode cL_in 11 = .ok (.iload_n 1, 1) := by decide +kernel
theorem dL_in_12 : decode cL_in 12 = .ok (.aload_n 3, 1) := by decide +kernel
theorem dL_in_13 : decode cL_in 13 = .ok (.iload_n 2, 1) := by decide +kernel
theorem dL_in_14 : decode cL_in 14 = .ok (.iconst 2, 1) := by decide +kernel
theorem dL_in_15 : decode cL_in 15 = .ok (.iload_n 0, 1) := by decide +kernel
theorem dL_in_16 : decode cL_in 16 = .ok (.imul, 1) := by decide +kernel
theorem dL_in_17 : decode cL_in 17 = .ok (.iadd, 1) := by decide +kernel
theorem dL_in_18 : decode cL_in 18 = .ok (.iconst 1, 1) := by decide +kernel
theorem dL_in_19 : decode cL_in 19 = .ok (.iadd, 1) := by decide +kernel
theorem dL_in_20 : decode cL_in 20 = .ok (.iaload, 1) := by decide +kernel
theorem dL_in_21 : decode cL_in 21 = .ok (.if_icmp .ge 7, 3) := by decide +kernel
theorem dL_in_24 : decode cL_in 24 = .ok (.iconst 1, 1) := by decide +kernel
theorem dL_in_25 : decode cL_in 25 = .ok (.goto 4, 3) := by decide +kernel
theorem dL_in_28 : decode cL_in 28 = .ok (.iconst 0, 1) := by decide +kernel
theorem dL_in_29 : decode cL_in 29 = .ok (.ireturn, 1) := by decide +kernel
theorem dL_hours_0 : decode cL_hours 0 = .ok (.iconst 0, 1) := by decide +kernel
theorem dL_hours_1 : decode cL_hours 1 = .ok (.istore_n 2, 1) := by decide +kernel
theorem dL_hours_2 : decode cL_hours 2 = .ok (.iconst 0, 1) := by decide +kernel
theorem dL_hours_3 : decode cL_hours 3 = .ok (.istore_n 3, 1) := by decide +kernel
theorem dL_hours_4 : decode cL_hours 4 = .ok (.iload_n 3, 1) := by decide +kernel
theorem dL_hours_5 : decode cL_hours 5 = .ok (.iconst 5, 1) := by decide +kernel
theorem dL_hours_6 : decode cL_hours 6 = .ok (.if_icmp .ge 47, 3) := by decide +kernel
theorem dL_hours_9 : decode cL_hours 9 = .ok (.iconst 0, 1) := by decide +kernel
theorem dL_hours_10 : decode cL_hours 10 = .ok (.istore 4, 2) := by decide +kernel
theorem dL_hours_12 : decode cL_hours 12 = .ok (.iload 4, 2) := by decide +kernel
theorem dL_hours_14 : decode cL_hours 14 = .ok (.bipush 10, 2) := by decide +kernel
theorem dL_hours_16 : decode cL_hours 16 = .ok (.if_icmp .ge 31, 3) := by decide +kernel
theorem dL_hours_19 : decode cL_hours 19 = .ok (.iload_n 2, 1) := by decide +kernel
theorem dL_hours_20 : decode cL_hours 20 = .ok (.iload_n 3, 1) := by decide +kernel
theorem dL_hours_21 : decode cL_hours 21 = .ok (.iload 4, 2) := by decide +kernel
theorem dL_hours_23 : decode cL_hours 23 = .ok (.bipush 10, 2) := by decide +kernel
theorem dL_hours_25 : decode cL_hours 25 = .ok (.iload_n 0, 1) := by decide +kernel
theorem dL_hours_26 : decode cL_hours 26 = .ok (.imul, 1) := by decide +kernel
theorem dL_hours_27 : decode cL_hours 27 = .ok (.aload_n 1, 1) := by decide +kernel
theorem dL_hours_28 : decode cL_hours 28 = .ok (.invokestatic 10, 3) := by decide +kernel
theorem dL_hours_31 : decode cL_hours 31 = .ok (.ifCond .eq 7, 3) := by decide +kernel
theorem dL_hours_34 : decode cL_hours 34 = .ok (.iconst 1, 1) := by decide +kernel
theorem dL_hours_35 : decode cL_hours 35 = .ok (.goto 4, 3) := by decide +kernel
theorem dL_hours_38 : decode cL_hours 38 = .ok (.iconst 0, 1) := by decide +kernel
theorem dL_hours_39 : decode cL_hours 39 = .ok (.iadd, 1) := by decide +kernel
theorem dL_hours_40 : decode cL_hours 40 = .ok (.istore_n 2, 1) := by decide +kernel
theorem dL_hours_41 : decode cL_hours 41 = .ok (.iinc 4 1, 3) := by decide +kernel
theorem dL_hours_44 : decode cL_hours 44 = .ok (.goto (-32), 3) := by decide +kernel
theorem dL_hours_47 : decode cL_hours 47 = .ok (.iinc 3 1, 3) := by decide +kernel
theorem dL_hours_50 : decode cL_hours 50 = .ok (.goto (-46), 3) := by decide +kernel
theorem dL_hours_53 : decode cL_hours 53 = .ok (.iload_n 2, 1) := by decide +kernel
theorem dL_hours_54 : decode cL_hours 54 = .ok (.ireturn, 1) := by decide +kernel
theorem dL_need_0 : decode cL_need 0 = .ok (.iconst 0, 1) := by decide +kernel
theorem dL_need_1 : decode cL_need 1 = .ok (.istore 5, 2) := by decide +kernel
theorem dL_need_3 : decode cL_need 3 = .ok (.iconst 0, 1) := by decide +kernel
theorem dL_need_4 : decode cL_need 4 = .ok (.istore 6, 2) := by decide +kernel
theorem dL_need_6 : decode cL_need 6 = .ok (.iload 6, 2) := by decide +kernel
theorem dL_need_8 : decode cL_need 8 = .ok (.aload_n 2, 1) := by decide +kernel
theorem dL_need_9 : decode cL_need 9 = .ok (.bipush 7, 2) := by decide +kernel
theorem dL_need_11 : decode cL_need 11 = .ok (.iaload, 1) := by decide +kernel
theorem dL_need_12 : decode cL_need 12 = .ok (.if_icmp .ge 90, 3) := by decide +kernel
theorem dL_need_15 : decode cL_need 15 = .ok (.aload_n 3, 1) := by decide +kernel
theorem dL_need_16 : decode cL_need 16 = .ok (.iconst 4, 1) := by decide +kernel
theorem dL_need_17 : decode cL_need 17 = .ok (.iload 6, 2) := by decide +kernel
theorem dL_need_19 : decode cL_need 19 = .ok (.imul, 1) := by decide +kernel
theorem dL_need_20 : decode cL_need 20 = .ok (.iaload, 1) := by decide +kernel
theorem dL_need_21 : decode cL_need 21 = .ok (.invokestatic 16, 3) := by decide +kernel
theorem dL_need_24 : decode cL_need 24 = .ok (.istore 7, 2) := by decide +kernel
theorem dL_need_26 : decode cL_need 26 = .ok (.aload_n 3, 1) := by decide +kernel
theorem dL_need_27 : decode cL_need 27 = .ok (.iconst 4, 1) := by decide +kernel
theorem dL_need_28 : decode cL_need 28 = .ok (.iload 6, 2) := by decide +kernel
theorem dL_need_30 : decode cL_need 30 = .ok (.imul, 1) := by decide +kernel
theorem dL_need_31 : decode cL_need 31 = .ok (.iconst 2, 1) := by decide +kernel
theorem dL_need_32 : decode cL_need 32 = .ok (.iadd, 1) := by decide +kernel
theorem dL_need_33 : decode cL_need 33 = .ok (.iaload, 1) := by decide +kernel
theorem dL_need_34 : decode cL_need 34 = .ok (.iconst 1, 1) := by decide +kernel
theorem dL_need_35 : decode cL_need 35 = .ok (.if_icmp .ne 61, 3) := by decide +kernel
theorem dL_need_38 : decode cL_need 38 = .ok (.iload_n 0, 1) := by decide +kernel
theorem dL_need_39 : decode cL_need 39 = .ok (.iload_n 1, 1) := by decide +kernel
theorem dL_need_40 : decode cL_need 40 = .ok (.bipush 10, 2) := by decide +kernel
theorem dL_need_42 : decode cL_need 42 = .ok (.iload 6, 2) := by decide +kernel
theorem dL_need_44 : decode cL_need 44 = .ok (.imul, 1) := by decide +kernel
theorem dL_need_45 : decode cL_need 45 = .ok (.aload 4, 2) := by decide +kernel
theorem dL_need_47 : decode cL_need 47 = .ok (.invokestatic 10, 3) := by decide +kernel
theorem dL_need_50 : decode cL_need 50 = .ok (.ifCond .eq 46, 3) := by decide +kernel
theorem dL_need_53 : decode cL_need 53 = .ok (.iload 5, 2) := by decide +kernel
theorem dL_need_55 : decode cL_need 55 = .ok (.iload 7, 2) := by decide +kernel
theorem dL_need_57 : decode cL_need 57 = .ok (.ifCond .ne 13, 3) := by decide +kernel
theorem dL_need_60 : decode cL_need 60 = .ok (.aload_n 2, 1) := by decide +kernel
theorem dL_need_61 : decode cL_need 61 = .ok (.iconst 1, 1) := by decide +kernel
theorem dL_need_62 : decode cL_need 62 = .ok (.iaload, 1) := by decide +kernel
theorem dL_need_63 : decode cL_need 63 = .ok (.aload_n 2, 1) := by decide +kernel
theorem dL_need_64 : decode cL_need 64 = .ok (.iconst 2, 1) := by decide +kernel
theorem dL_need_65 : decode cL_need 65 = .ok (.iaload, 1) := by decide +kernel
theorem dL_need_66 : decode cL_need 66 = .ok (.imul, 1) := by decide +kernel
theorem dL_need_67 : decode cL_need 67 = .ok (.goto 26, 3) := by decide +kernel
theorem dL_need_70 : decode cL_need 70 = .ok (.iload 7, 2) := by decide +kernel
theorem dL_need_72 : decode cL_need 72 = .ok (.iconst 1, 1) := by decide +kernel
theorem dL_need_73 : decode cL_need 73 = .ok (.if_icmp .ne 13, 3) := by decide +kernel
theorem dL_need_76 : decode cL_need 76 = .ok (.aload_n 2, 1) := by decide +kernel
theorem dL_need_77 : decode cL_need 77 = .ok (.iconst 0, 1) := by decide +kernel
theorem dL_need_78 : decode cL_need 78 = .ok (.iaload, 1) := by decide +kernel
theorem dL_need_79 : decode cL_need 79 = .ok (.aload_n 2, 1) := by decide +kernel
theorem dL_need_80 : decode cL_need 80 = .ok (.iconst 2, 1) := by decide +kernel
theorem dL_need_81 : decode cL_need 81 = .ok (.iaload, 1) := by decide +kernel
theorem dL_need_82 : decode cL_need 82 = .ok (.imul, 1) := by decide +kernel
theorem dL_need_83 : decode cL_need 83 = .ok (.goto 10, 3) := by decide +kernel
theorem dL_need_86 : decode cL_need 86 = .ok (.aload_n 2, 1) := by decide +kernel
theorem dL_need_87 : decode cL_need 87 = .ok (.iconst 0, 1) := by decide +kernel
theorem dL_need_88 : decode cL_need 88 = .ok (.iaload, 1) := by decide +kernel
theorem dL_need_89 : decode cL_need 89 = .ok (.aload_n 2, 1) := by decide +kernel
theorem dL_need_90 : decode cL_need 90 = .ok (.iconst 1, 1) := by decide +kernel
theorem dL_need_91 : decode cL_need 91 = .ok (.iaload, 1) := by decide +kernel
theorem dL_need_92 : decode cL_need 92 = .ok (.imul, 1) := by decide +kernel
theorem dL_need_93 : decode cL_need 93 = .ok (.iadd, 1) := by decide +kernel
theorem dL_need_94 : decode cL_need 94 = .ok (.istore 5, 2) := by decide +kernel
theorem dL_need_96 : decode cL_need 96 = .ok (.iinc 6 1, 3) := by decide +kernel
theorem dL_need_99 : decode cL_need 99 = .ok (.goto (-93), 3) := by decide +kernel
theorem dL_need_102 : decode cL_need 102 = .ok (.iconst 0, 1) := by decide +kernel
theorem dL_need_103 : decode cL_need 103 = .ok (.istore 6, 2) := by decide +kernel
theorem dL_need_105 : decode cL_need 105 = .ok (.iload 6, 2) := by decide +kernel
theorem dL_need_107 : decode cL_need 107 = .ok (.aload_n 2, 1) := by decide +kernel
theorem dL_need_108 : decode cL_need 108 = .ok (.iconst 0, 1) := by decide +kernel
theorem dL_need_109 : decode cL_need 109 = .ok (.iaload, 1) := by decide +kernel
theorem dL_need_110 : decode cL_need 110 = .ok (.imul, 1) := by decide +kernel
theorem dL_need_111 : decode cL_need 111 = .ok (.aload_n 2, 1) := by decide +kernel
theorem dL_need_112 : decode cL_need 112 = .ok (.iconst 1, 1) := by decide +kernel
theorem dL_need_113 : decode cL_need 113 = .ok (.iaload, 1) := by decide +kernel
theorem dL_need_114 : decode cL_need 114 = .ok (.imul, 1) := by decide +kernel
theorem dL_need_115 : decode cL_need 115 = .ok (.aload_n 2, 1) := by decide +kernel
theorem dL_need_116 : decode cL_need 116 = .ok (.iconst 2, 1) := by decide +kernel
theorem dL_need_117 : decode cL_need 117 = .ok (.iaload, 1) := by decide +kernel
theorem dL_need_118 : decode cL_need 118 = .ok (.imul, 1) := by decide +kernel
theorem dL_need_119 : decode cL_need 119 = .ok (.iload 5, 2) := by decide +kernel
theorem dL_need_121 : decode cL_need 121 = .ok (.if_icmp .ge 9, 3) := by decide +kernel
theorem dL_need_124 : decode cL_need 124 = .ok (.iinc 6 1, 3) := by decide +kernel
theorem dL_need_127 : decode cL_need 127 = .ok (.goto (-22), 3) := by decide +kernel
theorem dL_need_130 : decode cL_need 130 = .ok (.iload 6, 2) := by decide +kernel
theorem dL_need_132 : decode cL_need 132 = .ok (.ireturn, 1) := by decide +kernel
theorem dL_present_0 : decode cL_present 0 = .ok (.iconst 0, 1) := by decide +kernel
theorem dL_present_1 : decode cL_present 1 = .ok (.istore 5, 2) := by decide +kernel
theorem dL_present_3 : decode cL_present 3 = .ok (.iconst 0, 1) := by decide +kernel
theorem dL_present_4 : decode cL_present 4 = .ok (.istore 6, 2) := by decide +kernel
theorem dL_present_6 : decode cL_present 6 = .ok (.iload 6, 2) := by decide +kernel
theorem dL_present_8 : decode cL_present 8 = .ok (.aload_n 2, 1) := by decide +kernel
theorem dL_present_9 : decode cL_present 9 = .ok (.bipush 7, 2) := by decide +kernel
theorem dL_present_11 : decode cL_present 11 = .ok (.iaload, 1) := by decide +kernel
theorem dL_present_12 : decode cL_present 12 = .ok (.if_icmp .ge 46, 3) := by decide +kernel
theorem dL_present_15 : decode cL_present 15 = .ok (.iload 5, 2) := by decide +kernel
theorem dL_present_17 : decode cL_present 17 = .ok (.aload_n 3, 1) := by decide +kernel
theorem dL_present_18 : decode cL_present 18 = .ok (.iconst 4, 1) := by decide +kernel
theorem dL_present_19 : decode cL_present 19 = .ok (.iload 6, 2) := by decide +kernel
theorem dL_present_21 : decode cL_present 21 = .ok (.imul, 1) := by decide +kernel
theorem dL_present_22 : decode cL_present 22 = .ok (.iconst 2, 1) := by decide +kernel
theorem dL_present_23 : decode cL_present 23 = .ok (.iadd, 1) := by decide +kernel
theorem dL_present_24 : decode cL_present 24 = .ok (.iaload, 1) := by decide +kernel
theorem dL_present_25 : decode cL_present 25 = .ok (.iconst 1, 1) := by decide +kernel
theorem dL_present_26 : decode cL_present 26 = .ok (.if_icmp .ne 22, 3) := by decide +kernel
theorem dL_present_29 : decode cL_present 29 = .ok (.iload_n 0, 1) := by decide +kernel
theorem dL_present_30 : decode cL_present 30 = .ok (.iload_n 1, 1) := by decide +kernel
theorem dL_present_31 : decode cL_present 31 = .ok (.bipush 10, 2) := by decide +kernel
theorem dL_present_33 : decode cL_present 33 = .ok (.iload 6, 2) := by decide +kernel
theorem dL_present_35 : decode cL_present 35 = .ok (.imul, 1) := by decide +kernel
theorem dL_present_36 : decode cL_present 36 = .ok (.aload 4, 2) := by decide +kernel
theorem dL_present_38 : decode cL_present 38 = .ok (.invokestatic 10, 3) := by decide +kernel
theorem dL_present_41 : decode cL_present 41 = .ok (.ifCond .eq 7, 3) := by decide +kernel
theorem dL_present_44 : decode cL_present 44 = .ok (.iconst 1, 1) := by decide +kernel
theorem dL_present_45 : decode cL_present 45 = .ok (.goto 4, 3) := by decide +kernel
theorem dL_present_48 : decode cL_present 48 = .ok (.iconst 0, 1) := by decide +kernel
theorem dL_present_49 : decode cL_present 49 = .ok (.iadd, 1) := by decide +kernel
theorem dL_present_50 : decode cL_present 50 = .ok (.istore 5, 2) := by decide +kernel
theorem dL_present_52 : decode cL_present 52 = .ok (.iinc 6 1, 3) := by decide +kernel
theorem dL_present_55 : decode cL_present 55 = .ok (.goto (-49), 3) := by decide +kernel
theorem dL_present_58 : decode cL_present 58 = .ok (.iload 5, 2) := by decide +kernel
theorem dL_present_60 : decode cL_present 60 = .ok (.ireturn, 1) := by decide +kernel
theorem dL_staff_0 : decode cL_staff 0 = .ok (.iconst 0, 1) := by decide +kernel
theorem dL_staff_1 : decode cL_staff 1 = .ok (.istore 6, 2) := by decide +kernel
theorem dL_staff_3 : decode cL_staff 3 = .ok (.iconst 0, 1) := by decide +kernel
theorem dL_staff_4 : decode cL_staff 4 = .ok (.istore 7, 2) := by decide +kernel
theorem dL_staff_6 : decode cL_staff 6 = .ok (.iload 7, 2) := by decide +kernel
theorem dL_staff_8 : decode cL_staff 8 = .ok (.aload_n 3, 1) := by decide +kernel
theorem dL_staff_9 : decode cL_staff 9 = .ok (.bipush 8, 2) := by decide +kernel
theorem dL_staff_11 : decode cL_staff 11 = .ok (.iaload, 1) := by decide +kernel
theorem dL_staff_12 : decode cL_staff 12 = .ok (.if_icmp .ge 50, 3) := by decide +kernel
theorem dL_staff_15 : decode cL_staff 15 = .ok (.iload 6, 2) := by decide +kernel
theorem dL_staff_17 : decode cL_staff 17 = .ok (.iload_n 0, 1) := by decide +kernel
theorem dL_staff_18 : decode cL_staff 18 = .ok (.iload_n 1, 1) := by decide +kernel
theorem dL_staff_19 : decode cL_staff 19 = .ok (.bipush 10, 2) := by decide +kernel
theorem dL_staff_21 : decode cL_staff 21 = .ok (.iload 7, 2) := by decide +kernel
theorem dL_staff_23 : decode cL_staff 23 = .ok (.imul, 1) := by decide +kernel
theorem dL_staff_24 : decode cL_staff 24 = .ok (.aload 4, 2) := by decide +kernel
theorem dL_staff_26 : decode cL_staff 26 = .ok (.invokestatic 10, 3) := by decide +kernel
theorem dL_staff_29 : decode cL_staff 29 = .ok (.ifCond .eq 23, 3) := by decide +kernel
theorem dL_staff_32 : decode cL_staff 32 = .ok (.iload_n 2, 1) := by decide +kernel
theorem dL_staff_33 : decode cL_staff 33 = .ok (.ifCond .lt 15, 3) := by decide +kernel
theorem dL_staff_36 : decode cL_staff 36 = .ok (.aload 5, 2) := by decide +kernel
theorem dL_staff_38 : decode cL_staff 38 = .ok (.iconst 4, 1) := by decide +kernel
theorem dL_staff_39 : decode cL_staff 39 = .ok (.iload 7, 2) := by decide +kernel
theorem dL_staff_41 : decode cL_staff 41 = .ok (.imul, 1) := by decide +kernel
theorem dL_staff_42 : decode cL_staff 42 = .ok (.iload_n 2, 1) := by decide +kernel
theorem dL_staff_43 : decode cL_staff 43 = .ok (.iadd, 1) := by decide +kernel
theorem dL_staff_44 : decode cL_staff 44 = .ok (.iaload, 1) := by decide +kernel
theorem dL_staff_45 : decode cL_staff 45 = .ok (.ifCond .ne 7, 3) := by decide +kernel
theorem dL_staff_48 : decode cL_staff 48 = .ok (.iconst 1, 1) := by decide +kernel
theorem dL_staff_49 : decode cL_staff 49 = .ok (.goto 4, 3) := by decide +kernel
theorem dL_staff_52 : decode cL_staff 52 = .ok (.iconst 0, 1) := by decide +kernel
theorem dL_staff_53 : decode cL_staff 53 = .ok (.iadd, 1) := by decide +kernel
theorem dL_staff_54 : decode cL_staff 54 = .ok (.istore 6, 2) := by decide +kernel
theorem dL_staff_56 : decode cL_staff 56 = .ok (.iinc 7 1, 3) := by decide +kernel
theorem dL_staff_59 : decode cL_staff 59 = .ok (.goto (-53), 3) := by decide +kernel
theorem dL_staff_62 : decode cL_staff 62 = .ok (.iload 6, 2) := by decide +kernel
theorem dL_staff_64 : decode cL_staff 64 = .ok (.ireturn, 1) := by decide +kernel
theorem dL_safe_0 : decode cL_safe 0 = .ok (.iload_n 0, 1) := by decide +kernel
theorem dL_safe_1 : decode cL_safe 1 = .ok (.iload_n 1, 1) := by decide +kernel
theorem dL_safe_2 : decode cL_safe 2 = .ok (.aload_n 2, 1) := by decide +kernel
theorem dL_safe_3 : decode cL_safe 3 = .ok (.aload_n 3, 1) := by decide +kernel
theorem dL_safe_4 : decode cL_safe 4 = .ok (.aload 4, 2) := by decide +kernel
theorem dL_safe_6 : decode cL_safe 6 = .ok (.invokestatic 20, 3) := by decide +kernel
theorem dL_safe_9 : decode cL_safe 9 = .ok (.aload_n 2, 1) := by decide +kernel
theorem dL_safe_10 : decode cL_safe 10 = .ok (.bipush 6, 2) := by decide +kernel
theorem dL_safe_12 : decode cL_safe 12 = .ok (.iaload, 1) := by decide +kernel
theorem dL_safe_13 : decode cL_safe 13 = .ok (.if_icmp .gt 30, 3) := by decide +kernel
theorem dL_safe_16 : decode cL_safe 16 = .ok (.iload_n 0, 1) := by decide +kernel
theorem dL_safe_17 : decode cL_safe 17 = .ok (.iload_n 1, 1) := by decide +kernel
theorem dL_safe_18 : decode cL_safe 18 = .ok (.aload_n 2, 1) := by decide +kernel
theorem dL_safe_19 : decode cL_safe 19 = .ok (.aload_n 3, 1) := by decide +kernel
theorem dL_safe_20 : decode cL_safe 20 = .ok (.aload 4, 2) := by decide +kernel
theorem dL_safe_22 : decode cL_safe 22 = .ok (.invokestatic 24, 3) := by decide +kernel
theorem dL_safe_25 : decode cL_safe 25 = .ok (.iload_n 0, 1) := by decide +kernel
theorem dL_safe_26 : decode cL_safe 26 = .ok (.iload_n 1, 1) := by decide +kernel
theorem dL_safe_27 : decode cL_safe 27 = .ok (.iconst (-1), 1) := by decide +kernel
theorem dL_safe_28 : decode cL_safe 28 = .ok (.aload_n 2, 1) := by decide +kernel
theorem dL_safe_29 : decode cL_safe 29 = .ok (.aload 5, 2) := by decide +kernel
theorem dL_safe_31 : decode cL_safe 31 = .ok (.aload 6, 2) := by decide +kernel
theorem dL_safe_33 : decode cL_safe 33 = .ok (.invokestatic 27, 3) := by decide +kernel
theorem dL_safe_36 : decode cL_safe 36 = .ok (.if_icmp .gt 7, 3) := by decide +kernel
theorem dL_safe_39 : decode cL_safe 39 = .ok (.iconst 1, 1) := by decide +kernel
theorem dL_safe_40 : decode cL_safe 40 = .ok (.goto 4, 3) := by decide +kernel
theorem dL_safe_43 : decode cL_safe 43 = .ok (.iconst 0, 1) := by decide +kernel
theorem dL_safe_44 : decode cL_safe 44 = .ok (.ireturn, 1) := by decide +kernel
theorem dL_points_0 : decode cL_points 0 = .ok (.iconst 0, 1) := by decide +kernel
theorem dL_points_1 : decode cL_points 1 = .ok (.istore 4, 2) := by decide +kernel
theorem dL_points_3 : decode cL_points 3 = .ok (.iconst 0, 1) := by decide +kernel
theorem dL_points_4 : decode cL_points 4 = .ok (.istore 5, 2) := by decide +kernel
theorem dL_points_6 : decode cL_points 6 = .ok (.iload 5, 2) := by decide +kernel
theorem dL_points_8 : decode cL_points 8 = .ok (.aload_n 1, 1) := by decide +kernel
theorem dL_points_9 : decode cL_points 9 = .ok (.bipush 7, 2) := by decide +kernel
theorem dL_points_11 : decode cL_points 11 = .ok (.iaload, 1) := by decide +kernel
theorem dL_points_12 : decode cL_points 12 = .ok (.if_icmp .ge 54, 3) := by decide +kernel
theorem dL_points_15 : decode cL_points 15 = .ok (.iload 5, 2) := by decide +kernel
theorem dL_points_17 : decode cL_points 17 = .ok (.iload_n 0, 1) := by decide +kernel
theorem dL_points_18 : decode cL_points 18 = .ok (.if_icmp .eq 38, 3) := by decide +kernel
theorem dL_points_21 : decode cL_points 21 = .ok (.aload_n 2, 1) := by decide +kernel
theorem dL_points_22 : decode cL_points 22 = .ok (.iconst 4, 1) := by decide +kernel
theorem dL_points_23 : decode cL_points 23 = .ok (.iload 5, 2) := by decide +kernel
theorem dL_points_25 : decode cL_points 25 = .ok (.imul, 1) := by decide +kernel
theorem dL_points_26 : decode cL_points 26 = .ok (.iconst 2, 1) := by decide +kernel
theorem dL_points_27 : decode cL_points 27 = .ok (.iadd, 1) := by decide +kernel
theorem dL_points_28 : decode cL_points 28 = .ok (.iaload, 1) := by decide +kernel
theorem dL_points_29 : decode cL_points 29 = .ok (.iconst 1, 1) := by decide +kernel
theorem dL_points_30 : decode cL_points 30 = .ok (.if_icmp .ne 26, 3) := by decide +kernel
theorem dL_points_33 : decode cL_points 33 = .ok (.aload_n 2, 1) := by decide +kernel
theorem dL_points_34 : decode cL_points 34 = .ok (.iconst 4, 1) := by decide +kernel
theorem dL_points_35 : decode cL_points 35 = .ok (.iload 5, 2) := by decide +kernel
theorem dL_points_37 : decode cL_points 37 = .ok (.imul, 1) := by decide +kernel
theorem dL_points_38 : decode cL_points 38 = .ok (.iconst 1, 1) := by decide +kernel
theorem dL_points_39 : decode cL_points 39 = .ok (.iadd, 1) := by decide +kernel
theorem dL_points_40 : decode cL_points 40 = .ok (.iaload, 1) := by decide +kernel
theorem dL_points_41 : decode cL_points 41 = .ok (.aload_n 2, 1) := by decide +kernel
theorem dL_points_42 : decode cL_points 42 = .ok (.iconst 4, 1) := by decide +kernel
theorem dL_points_43 : decode cL_points 43 = .ok (.iload_n 0, 1) := by decide +kernel
theorem dL_points_44 : decode cL_points 44 = .ok (.imul, 1) := by decide +kernel
theorem dL_points_45 : decode cL_points 45 = .ok (.iconst 1, 1) := by decide +kernel
theorem dL_points_46 : decode cL_points 46 = .ok (.iadd, 1) := by decide +kernel
theorem dL_points_47 : decode cL_points 47 = .ok (.iaload, 1) := by decide +kernel
theorem dL_points_48 : decode cL_points 48 = .ok (.if_icmp .ne 8, 3) := by decide +kernel
theorem dL_points_51 : decode cL_points 51 = .ok (.bipush 25, 2) := by decide +kernel
theorem dL_points_53 : decode cL_points 53 = .ok (.goto 5, 3) := by decide +kernel
theorem dL_points_56 : decode cL_points 56 = .ok (.iload 4, 2) := by decide +kernel
theorem dL_points_58 : decode cL_points 58 = .ok (.istore 4, 2) := by decide +kernel
theorem dL_points_60 : decode cL_points 60 = .ok (.iinc 5 1, 3) := by decide +kernel
theorem dL_points_63 : decode cL_points 63 = .ok (.goto (-57), 3) := by decide +kernel
theorem dL_points_66 : decode cL_points 66 = .ok (.bipush 10, 2) := by decide +kernel
theorem dL_points_68 : decode cL_points 68 = .ok (.aload_n 2, 1) := by decide +kernel
theorem dL_points_69 : decode cL_points 69 = .ok (.iconst 4, 1) := by decide +kernel
theorem dL_points_70 : decode cL_points 70 = .ok (.iload_n 0, 1) := by decide +kernel
theorem dL_points_71 : decode cL_points 71 = .ok (.imul, 1) := by decide +kernel
theorem dL_points_72 : decode cL_points 72 = .ok (.iconst 3, 1) := by decide +kernel
theorem dL_points_73 : decode cL_points 73 = .ok (.iadd, 1) := by decide +kernel
theorem dL_points_74 : decode cL_points 74 = .ok (.iaload, 1) := by decide +kernel
theorem dL_points_75 : decode cL_points 75 = .ok (.imul, 1) := by decide +kernel
theorem dL_points_76 : decode cL_points 76 = .ok (.iload 4, 2) := by decide +kernel
theorem dL_points_78 : decode cL_points 78 = .ok (.iadd, 1) := by decide +kernel
theorem dL_points_79 : decode cL_points 79 = .ok (.iload_n 0, 1) := by decide +kernel
theorem dL_points_80 : decode cL_points 80 = .ok (.aload_n 3, 1) := by decide +kernel
theorem dL_points_81 : decode cL_points 81 = .ok (.invokestatic 31, 3) := by decide +kernel
theorem dL_points_84 : decode cL_points 84 = .ok (.iadd, 1) := by decide +kernel
theorem dL_points_85 : decode cL_points 85 = .ok (.ireturn, 1) := by decide +kernel
theorem dL_before_0 : decode cL_before 0 = .ok (.iload_n 0, 1) := by decide +kernel
theorem dL_before_1 : decode cL_before 1 = .ok (.aload_n 2, 1) := by decide +kernel
theorem dL_before_2 : decode cL_before 2 = .ok (.aload_n 3, 1) := by decide +kernel
theorem dL_before_3 : decode cL_before 3 = .ok (.aload 4, 2) := by decide +kernel
theorem dL_before_5 : decode cL_before 5 = .ok (.invokestatic 35, 3) := by decide +kernel
theorem dL_before_8 : decode cL_before 8 = .ok (.iload_n 1, 1) := by decide +kernel
theorem dL_before_9 : decode cL_before 9 = .ok (.aload_n 2, 1) := by decide +kernel
theorem dL_before_10 : decode cL_before 10 = .ok (.aload_n 3, 1) := by decide +kernel
theorem dL_before_11 : decode cL_before 11 = .ok (.aload 4, 2) := by decide +kernel
theorem dL_before_13 : decode cL_before 13 = .ok (.invokestatic 35, 3) := by decide +kernel
theorem dL_before_16 : decode cL_before 16 = .ok (.isub, 1) := by decide +kernel
theorem dL_before_17 : decode cL_before 17 = .ok (.istore 5, 2) := by decide +kernel
theorem dL_before_19 : decode cL_before 19 = .ok (.iload 5, 2) := by decide +kernel
theorem dL_before_21 : decode cL_before 21 = .ok (.ifCond .eq 16, 3) := by decide +kernel
theorem dL_before_24 : decode cL_before 24 = .ok (.iload 5, 2) := by decide +kernel
theorem dL_before_26 : decode cL_before 26 = .ok (.ifCond .le 7, 3) := by decide +kernel
theorem dL_before_29 : decode cL_before 29 = .ok (.iconst 1, 1) := by decide +kernel
theorem dL_before_30 : decode cL_before 30 = .ok (.goto 51, 3) := by decide +kernel
theorem dL_before_33 : decode cL_before 33 = .ok (.iconst 0, 1) := by decide +kernel
theorem dL_before_34 : decode cL_before 34 = .ok (.goto 47, 3) := by decide +kernel
theorem dL_before_37 : decode cL_before 37 = .ok (.aload_n 3, 1) := by decide +kernel
theorem dL_before_38 : decode cL_before 38 = .ok (.iconst 4, 1) := by decide +kernel
theorem dL_before_39 : decode cL_before 39 = .ok (.iload_n 0, 1) := by decide +kernel
theorem dL_before_40 : decode cL_before 40 = .ok (.imul, 1) := by decide +kernel
theorem dL_before_41 : decode cL_before 41 = .ok (.iaload, 1) := by decide +kernel
theorem dL_before_42 : decode cL_before 42 = .ok (.aload_n 3, 1) := by decide +kernel
theorem dL_before_43 : decode cL_before 43 = .ok (.iconst 4, 1) := by decide +kernel
theorem dL_before_44 : decode cL_before 44 = .ok (.iload_n 1, 1) := by decide +kernel
theorem dL_before_45 : decode cL_before 45 = .ok (.imul, 1) := by decide +kernel
theorem dL_before_46 : decode cL_before 46 = .ok (.iaload, 1) := by decide +kernel
theorem dL_before_47 : decode cL_before 47 = .ok (.if_icmp .eq 24, 3) := by decide +kernel
theorem dL_before_50 : decode cL_before 50 = .ok (.aload_n 3, 1) := by decide +kernel
theorem dL_before_51 : decode cL_before 51 = .ok (.iconst 4, 1) := by decide +kernel
theorem dL_before_52 : decode cL_before 52 = .ok (.iload_n 0, 1) := by decide +kernel
theorem dL_before_53 : decode cL_before 53 = .ok (.imul, 1) := by decide +kernel
theorem dL_before_54 : decode cL_before 54 = .ok (.iaload, 1) := by decide +kernel
theorem dL_before_55 : decode cL_before 55 = .ok (.aload_n 3, 1) := by decide +kernel
theorem dL_before_56 : decode cL_before 56 = .ok (.iconst 4, 1) := by decide +kernel
theorem dL_before_57 : decode cL_before 57 = .ok (.iload_n 1, 1) := by decide +kernel
theorem dL_before_58 : decode cL_before 58 = .ok (.imul, 1) := by decide +kernel
theorem dL_before_59 : decode cL_before 59 = .ok (.iaload, 1) := by decide +kernel
theorem dL_before_60 : decode cL_before 60 = .ok (.if_icmp .le 7, 3) := by decide +kernel
theorem dL_before_63 : decode cL_before 63 = .ok (.iconst 1, 1) := by decide +kernel
theorem dL_before_64 : decode cL_before 64 = .ok (.goto 17, 3) := by decide +kernel
theorem dL_before_67 : decode cL_before 67 = .ok (.iconst 0, 1) := by decide +kernel
theorem dL_before_68 : decode cL_before 68 = .ok (.goto 13, 3) := by decide +kernel
theorem dL_before_71 : decode cL_before 71 = .ok (.iload_n 0, 1) := by decide +kernel
theorem dL_before_72 : decode cL_before 72 = .ok (.iload_n 1, 1) := by decide +kernel
theorem dL_before_73 : decode cL_before 73 = .ok (.if_icmp .ge 7, 3) := by decide +kernel
theorem dL_before_76 : decode cL_before 76 = .ok (.iconst 1, 1) := by decide +kernel
theorem dL_before_77 : decode cL_before 77 = .ok (.goto 4, 3) := by decide +kernel
theorem dL_before_80 : decode cL_before 80 = .ok (.iconst 0, 1) := by decide +kernel
theorem dL_before_81 : decode cL_before 81 = .ok (.ireturn, 1) := by decide +kernel
theorem dL_next_0 : decode cL_next 0 = .ok (.iconst (-1), 1) := by decide +kernel
theorem dL_next_1 : decode cL_next 1 = .ok (.istore 5, 2) := by decide +kernel
theorem dL_next_3 : decode cL_next 3 = .ok (.iconst 0, 1) := by decide +kernel
theorem dL_next_4 : decode cL_next 4 = .ok (.istore 6, 2) := by decide +kernel
theorem dL_next_6 : decode cL_next 6 = .ok (.iload 6, 2) := by decide +kernel
theorem dL_next_8 : decode cL_next 8 = .ok (.aload_n 0, 1) := by decide +kernel
theorem dL_next_9 : decode cL_next 9 = .ok (.bipush 7, 2) := by decide +kernel
theorem dL_next_11 : decode cL_next 11 = .ok (.iaload, 1) := by decide +kernel
theorem dL_next_12 : decode cL_next 12 = .ok (.if_icmp .ge 156, 3) := by decide +kernel
theorem dL_next_15 : decode cL_next 15 = .ok (.aload_n 1, 1) := by decide +kernel
theorem dL_next_16 : decode cL_next 16 = .ok (.iconst 4, 1) := by decide +kernel
theorem dL_next_17 : decode cL_next 17 = .ok (.iload 6, 2) := by decide +kernel
theorem dL_next_19 : decode cL_next 19 = .ok (.imul, 1) := by decide +kernel
theorem dL_next_20 : decode cL_next 20 = .ok (.iconst 2, 1) := by decide +kernel
theorem dL_next_21 : decode cL_next 21 = .ok (.iadd, 1) := by decide +kernel
theorem dL_next_22 : decode cL_next 22 = .ok (.iaload, 1) := by decide +kernel
theorem dL_next_23 : decode cL_next 23 = .ok (.iconst 1, 1) := by decide +kernel
theorem dL_next_24 : decode cL_next 24 = .ok (.if_icmp .eq 138, 3) := by decide +kernel
theorem dL_next_27 : decode cL_next 27 = .ok (.iload 6, 2) := by decide +kernel
theorem dL_next_29 : decode cL_next 29 = .ok (.aload_n 2, 1) := by decide +kernel
theorem dL_next_30 : decode cL_next 30 = .ok (.invokestatic 31, 3) := by decide +kernel
theorem dL_next_33 : decode cL_next 33 = .ok (.ifCond .ne 6, 3) := by decide +kernel
theorem dL_next_36 : decode cL_next 36 = .ok (.goto 126, 3) := by decide +kernel
theorem dL_next_39 : decode cL_next 39 = .ok (.aload_n 1, 1) := by decide +kernel
theorem dL_next_40 : decode cL_next 40 = .ok (.iconst 4, 1) := by decide +kernel
theorem dL_next_41 : decode cL_next 41 = .ok (.iload 6, 2) := by decide +kernel
theorem dL_next_43 : decode cL_next 43 = .ok (.imul, 1) := by decide +kernel
theorem dL_next_44 : decode cL_next 44 = .ok (.iconst 2, 1) := by decide +kernel
theorem dL_next_45 : decode cL_next 45 = .ok (.iadd, 1) := by decide +kernel
theorem dL_next_46 : decode cL_next 46 = .ok (.iconst 1, 1) := by decide +kernel
theorem dL_next_47 : decode cL_next 47 = .ok (.iastore, 1) := by decide +kernel
theorem dL_next_48 : decode cL_next 48 = .ok (.iconst 1, 1) := by decide +kernel
theorem dL_next_49 : decode cL_next 49 = .ok (.istore 7, 2) := by decide +kernel
theorem dL_next_51 : decode cL_next 51 = .ok (.iconst 0, 1) := by decide +kernel
theorem dL_next_52 : decode cL_next 52 = .ok (.istore 8, 2) := by decide +kernel
theorem dL_next_54 : decode cL_next 54 = .ok (.iload 8, 2) := by decide +kernel
theorem dL_next_56 : decode cL_next 56 = .ok (.iconst 5, 1) := by decide +kernel
theorem dL_next_57 : decode cL_next 57 = .ok (.if_icmp .ge 69, 3) := by decide +kernel
theorem dL_next_60 : decode cL_next 60 = .ok (.iconst 0, 1) := by decide +kernel
theorem dL_next_61 : decode cL_next 61 = .ok (.istore 9, 2) := by decide +kernel
theorem dL_next_63 : decode cL_next 63 = .ok (.iload 9, 2) := by decide +kernel
theorem dL_next_65 : decode cL_next 65 = .ok (.bipush 10, 2) := by decide +kernel
theorem dL_next_67 : decode cL_next 67 = .ok (.if_icmp .ge 53, 3) := by decide +kernel
theorem dL_next_70 : decode cL_next 70 = .ok (.iload 7, 2) := by decide +kernel
theorem dL_next_72 : decode cL_next 72 = .ok (.ifCond .eq 39, 3) := by decide +kernel
theorem dL_next_75 : decode cL_next 75 = .ok (.iload 8, 2) := by decide +kernel
theorem dL_next_77 : decode cL_next 77 = .ok (.iload 9, 2) := by decide +kernel
theorem dL_next_79 : decode cL_next 79 = .ok (.bipush 10, 2) := by decide +kernel
theorem dL_next_81 : decode cL_next 81 = .ok (.iload 6, 2) := by decide +kernel
theorem dL_next_83 : decode cL_next 83 = .ok (.imul, 1) := by decide +kernel
theorem dL_next_84 : decode cL_next 84 = .ok (.aload_n 2, 1) := by decide +kernel
theorem dL_next_85 : decode cL_next 85 = .ok (.invokestatic 10, 3) := by decide +kernel
theorem dL_next_88 : decode cL_next 88 = .ok (.ifCond .eq 19, 3) := by decide +kernel
theorem dL_next_91 : decode cL_next 91 = .ok (.iload 8, 2) := by decide +kernel
theorem dL_next_93 : decode cL_next 93 = .ok (.iload 9, 2) := by decide +kernel
theorem dL_next_95 : decode cL_next 95 = .ok (.aload_n 0, 1) := by decide +kernel
theorem dL_next_96 : decode cL_next 96 = .ok (.aload_n 1, 1) := by decide +kernel
theorem dL_next_97 : decode cL_next 97 = .ok (.aload_n 2, 1) := by decide +kernel
theorem dL_next_98 : decode cL_next 98 = .ok (.aload_n 3, 1) := by decide +kernel
theorem dL_next_99 : decode cL_next 99 = .ok (.aload 4, 2) := by decide +kernel
theorem dL_next_101 : decode cL_next 101 = .ok (.invokestatic 39, 3) := by decide +kernel
theorem dL_next_104 : decode cL_next 104 = .ok (.ifCond .eq 7, 3) := by decide +kernel
theorem dL_next_107 : decode cL_next 107 = .ok (.iconst 1, 1) := by decide +kernel
theorem dL_next_108 : decode cL_next 108 = .ok (.goto 4, 3) := by decide +kernel
theorem dL_next_111 : decode cL_next 111 = .ok (.iconst 0, 1) := by decide +kernel
theorem dL_next_112 : decode cL_next 112 = .ok (.istore 7, 2) := by decide +kernel
theorem dL_next_114 : decode cL_next 114 = .ok (.iinc 9 1, 3) := by decide +kernel
theorem dL_next_117 : decode cL_next 117 = .ok (.goto (-54), 3) := by decide +kernel
theorem dL_next_120 : decode cL_next 120 = .ok (.iinc 8 1, 3) := by decide +kernel
theorem dL_next_123 : decode cL_next 123 = .ok (.goto (-69), 3) := by decide +kernel
theorem dL_next_126 : decode cL_next 126 = .ok (.aload_n 1, 1) := by decide +kernel
theorem dL_next_127 : decode cL_next 127 = .ok (.iconst 4, 1) := by decide +kernel
theorem dL_next_128 : decode cL_next 128 = .ok (.iload 6, 2) := by decide +kernel
theorem dL_next_130 : decode cL_next 130 = .ok (.imul, 1) := by decide +kernel
theorem dL_next_131 : decode cL_next 131 = .ok (.iconst 2, 1) := by decide +kernel
theorem dL_next_132 : decode cL_next 132 = .ok (.iadd, 1) := by decide +kernel
theorem dL_next_133 : decode cL_next 133 = .ok (.iconst 0, 1) := by decide +kernel
theorem dL_next_134 : decode cL_next 134 = .ok (.iastore, 1) := by decide +kernel
theorem dL_next_135 : decode cL_next 135 = .ok (.iload 7, 2) := by decide +kernel
theorem dL_next_137 : decode cL_next 137 = .ok (.ifCond .eq 25, 3) := by decide +kernel
theorem dL_next_140 : decode cL_next 140 = .ok (.iload 5, 2) := by decide +kernel
theorem dL_next_142 : decode cL_next 142 = .ok (.ifCond .lt 16, 3) := by decide +kernel
theorem dL_next_145 : decode cL_next 145 = .ok (.iload 6, 2) := by decide +kernel
theorem dL_next_147 : decode cL_next 147 = .ok (.iload 5, 2) := by decide +kernel
theorem dL_next_149 : decode cL_next 149 = .ok (.aload_n 0, 1) := by decide +kernel
theorem dL_next_150 : decode cL_next 150 = .ok (.aload_n 1, 1) := by decide +kernel
theorem dL_next_151 : decode cL_next 151 = .ok (.aload_n 2, 1) := by decide +kernel
theorem dL_next_152 : decode cL_next 152 = .ok (.invokestatic 43, 3) := by decide +kernel
theorem dL_next_155 : decode cL_next 155 = .ok (.ifCond .eq 7, 3) := by decide +kernel
theorem dL_next_158 : decode cL_next 158 = .ok (.iload 6, 2) := by decide +kernel
theorem dL_next_160 : decode cL_next 160 = .ok (.istore 5, 2) := by decide +kernel
theorem dL_next_162 : decode cL_next 162 = .ok (.iinc 6 1, 3) := by decide +kernel
theorem dL_next_165 : decode cL_next 165 = .ok (.goto (-159), 3) := by decide +kernel
theorem dL_next_168 : decode cL_next 168 = .ok (.iload 5, 2) := by decide +kernel
theorem dL_next_170 : decode cL_next 170 = .ok (.ireturn, 1) := by decide +kernel
theorem dL_fee_0 : decode cL_fee 0 = .ok (.iconst 0, 1) := by decide +kernel
theorem dL_fee_1 : decode cL_fee 1 = .ok (.istore 4, 2) := by decide +kernel
theorem dL_fee_3 : decode cL_fee 3 = .ok (.iconst 0, 1) := by decide +kernel
theorem dL_fee_4 : decode cL_fee 4 = .ok (.istore 5, 2) := by decide +kernel
theorem dL_fee_6 : decode cL_fee 6 = .ok (.iload 5, 2) := by decide +kernel
theorem dL_fee_8 : decode cL_fee 8 = .ok (.aload_n 1, 1) := by decide +kernel
theorem dL_fee_9 : decode cL_fee 9 = .ok (.bipush 7, 2) := by decide +kernel
theorem dL_fee_11 : decode cL_fee 11 = .ok (.iaload, 1) := by decide +kernel
theorem dL_fee_12 : decode cL_fee 12 = .ok (.if_icmp .ge 83, 3) := by decide +kernel
theorem dL_fee_15 : decode cL_fee 15 = .ok (.iload 4, 2) := by decide +kernel
theorem dL_fee_17 : decode cL_fee 17 = .ok (.aload_n 2, 1) := by decide +kernel
theorem dL_fee_18 : decode cL_fee 18 = .ok (.iconst 4, 1) := by decide +kernel
theorem dL_fee_19 : decode cL_fee 19 = .ok (.iload 5, 2) := by decide +kernel
theorem dL_fee_21 : decode cL_fee 21 = .ok (.imul, 1) := by decide +kernel
theorem dL_fee_22 : decode cL_fee 22 = .ok (.iconst 2, 1) := by decide +kernel
theorem dL_fee_23 : decode cL_fee 23 = .ok (.iadd, 1) := by decide +kernel
theorem dL_fee_24 : decode cL_fee 24 = .ok (.iaload, 1) := by decide +kernel
theorem dL_fee_25 : decode cL_fee 25 = .ok (.iconst 1, 1) := by decide +kernel
theorem dL_fee_26 : decode cL_fee 26 = .ok (.if_icmp .ne 59, 3) := by decide +kernel
theorem dL_fee_29 : decode cL_fee 29 = .ok (.aload_n 2, 1) := by decide +kernel
theorem dL_fee_30 : decode cL_fee 30 = .ok (.iconst 4, 1) := by decide +kernel
theorem dL_fee_31 : decode cL_fee 31 = .ok (.iload 5, 2) := by decide +kernel
theorem dL_fee_33 : decode cL_fee 33 = .ok (.imul, 1) := by decide +kernel
theorem dL_fee_34 : decode cL_fee 34 = .ok (.iconst 1, 1) := by decide +kernel
theorem dL_fee_35 : decode cL_fee 35 = .ok (.iadd, 1) := by decide +kernel
theorem dL_fee_36 : decode cL_fee 36 = .ok (.iaload, 1) := by decide +kernel
theorem dL_fee_37 : decode cL_fee 37 = .ok (.aload_n 2, 1) := by decide +kernel
theorem dL_fee_38 : decode cL_fee 38 = .ok (.iconst 4, 1) := by decide +kernel
theorem dL_fee_39 : decode cL_fee 39 = .ok (.iload_n 0, 1) := by decide +kernel
theorem dL_fee_40 : decode cL_fee 40 = .ok (.imul, 1) := by decide +kernel
theorem dL_fee_41 : decode cL_fee 41 = .ok (.iconst 1, 1) := by decide +kernel
theorem dL_fee_42 : decode cL_fee 42 = .ok (.iadd, 1) := by decide +kernel
theorem dL_fee_43 : decode cL_fee 43 = .ok (.iaload, 1) := by decide +kernel
theorem dL_fee_44 : decode cL_fee 44 = .ok (.if_icmp .ne 41, 3) := by decide +kernel
theorem dL_fee_47 : decode cL_fee 47 = .ok (.aload_n 2, 1) := by decide +kernel
theorem dL_fee_48 : decode cL_fee 48 = .ok (.iconst 4, 1) := by decide +kernel
theorem dL_fee_49 : decode cL_fee 49 = .ok (.iload 5, 2) := by decide +kernel
theorem dL_fee_51 : decode cL_fee 51 = .ok (.imul, 1) := by decide +kernel
theorem dL_fee_52 : decode cL_fee 52 = .ok (.iaload, 1) := by decide +kernel
theorem dL_fee_53 : decode cL_fee 53 = .ok (.aload_n 2, 1) := by decide +kernel
theorem dL_fee_54 : decode cL_fee 54 = .ok (.iconst 4, 1) := by decide +kernel
theorem dL_fee_55 : decode cL_fee 55 = .ok (.iload_n 0, 1) := by decide +kernel
theorem dL_fee_56 : decode cL_fee 56 = .ok (.imul, 1) := by decide +kernel
theorem dL_fee_57 : decode cL_fee 57 = .ok (.iaload, 1) := by decide +kernel
theorem dL_fee_58 : decode cL_fee 58 = .ok (.if_icmp .gt 23, 3) := by decide +kernel
theorem dL_fee_61 : decode cL_fee 61 = .ok (.aload_n 2, 1) := by decide +kernel
theorem dL_fee_62 : decode cL_fee 62 = .ok (.iconst 4, 1) := by decide +kernel
theorem dL_fee_63 : decode cL_fee 63 = .ok (.iload 5, 2) := by decide +kernel
theorem dL_fee_65 : decode cL_fee 65 = .ok (.imul, 1) := by decide +kernel
theorem dL_fee_66 : decode cL_fee 66 = .ok (.iaload, 1) := by decide +kernel
theorem dL_fee_67 : decode cL_fee 67 = .ok (.aload_n 2, 1) := by decide +kernel
theorem dL_fee_68 : decode cL_fee 68 = .ok (.iconst 4, 1) := by decide +kernel
theorem dL_fee_69 : decode cL_fee 69 = .ok (.iload_n 0, 1) := by decide +kernel
theorem dL_fee_70 : decode cL_fee 70 = .ok (.imul, 1) := by decide +kernel
theorem dL_fee_71 : decode cL_fee 71 = .ok (.iaload, 1) := by decide +kernel
theorem dL_fee_72 : decode cL_fee 72 = .ok (.if_icmp .ne 13, 3) := by decide +kernel
theorem dL_fee_75 : decode cL_fee 75 = .ok (.iload 5, 2) := by decide +kernel
theorem dL_fee_77 : decode cL_fee 77 = .ok (.iload_n 0, 1) := by decide +kernel
theorem dL_fee_78 : decode cL_fee 78 = .ok (.if_icmp .ge 7, 3) := by decide +kernel
theorem dL_fee_81 : decode cL_fee 81 = .ok (.iconst 1, 1) := by decide +kernel
theorem dL_fee_82 : decode cL_fee 82 = .ok (.goto 4, 3) := by decide +kernel
theorem dL_fee_85 : decode cL_fee 85 = .ok (.iconst 0, 1) := by decide +kernel
theorem dL_fee_86 : decode cL_fee 86 = .ok (.iadd, 1) := by decide +kernel
theorem dL_fee_87 : decode cL_fee 87 = .ok (.istore 4, 2) := by decide +kernel
theorem dL_fee_89 : decode cL_fee 89 = .ok (.iinc 5 1, 3) := by decide +kernel
theorem dL_fee_92 : decode cL_fee 92 = .ok (.goto (-86), 3) := by decide +kernel
theorem dL_fee_95 : decode cL_fee 95 = .ok (.iconst 4, 1) := by decide +kernel
theorem dL_fee_96 : decode cL_fee 96 = .ok (.iload_n 0, 1) := by decide +kernel
theorem dL_fee_97 : decode cL_fee 97 = .ok (.aload_n 3, 1) := by decide +kernel
theorem dL_fee_98 : decode cL_fee 98 = .ok (.invokestatic 31, 3) := by decide +kernel
theorem dL_fee_101 : decode cL_fee 101 = .ok (.imul, 1) := by decide +kernel
theorem dL_fee_102 : decode cL_fee 102 = .ok (.aload_n 1, 1) := by decide +kernel
theorem dL_fee_103 : decode cL_fee 103 = .ok (.iconst 3, 1) := by decide +kernel
theorem dL_fee_104 : decode cL_fee 104 = .ok (.aload_n 2, 1) := by decide +kernel
theorem dL_fee_105 : decode cL_fee 105 = .ok (.iconst 4, 1) := by decide +kernel
theorem dL_fee_106 : decode cL_fee 106 = .ok (.iload_n 0, 1) := by decide +kernel
theorem dL_fee_107 : decode cL_fee 107 = .ok (.imul, 1) := by decide +kernel
theorem dL_fee_108 : decode cL_fee 108 = .ok (.iaload, 1) := by decide +kernel
theorem dL_fee_109 : decode cL_fee 109 = .ok (.invokestatic 16, 3) := by decide +kernel
theorem dL_fee_112 : decode cL_fee 112 = .ok (.iadd, 1) := by decide +kernel
theorem dL_fee_113 : decode cL_fee 113 = .ok (.iaload, 1) := by decide +kernel
theorem dL_fee_114 : decode cL_fee 114 = .ok (.imul, 1) := by decide +kernel
theorem dL_fee_115 : decode cL_fee 115 = .ok (.iload 4, 2) := by decide +kernel
theorem dL_fee_117 : decode cL_fee 117 = .ok (.ifCond .ne 8, 3) := by decide +kernel
theorem dL_fee_120 : decode cL_fee 120 = .ok (.bipush 100, 2) := by decide +kernel
theorem dL_fee_122 : decode cL_fee 122 = .ok (.goto 16, 3) := by decide +kernel
theorem dL_fee_125 : decode cL_fee 125 = .ok (.iload 4, 2) := by decide +kernel
theorem dL_fee_127 : decode cL_fee 127 = .ok (.iconst 1, 1) := by decide +kernel
theorem dL_fee_128 : decode cL_fee 128 = .ok (.if_icmp .ne 8, 3) := by decide +kernel
theorem dL_fee_131 : decode cL_fee 131 = .ok (.bipush 70, 2) := by decide +kernel
theorem dL_fee_133 : decode cL_fee 133 = .ok (.goto 5, 3) := by decide +kernel
theorem dL_fee_136 : decode cL_fee 136 = .ok (.bipush 40, 2) := by decide +kernel
theorem dL_fee_138 : decode cL_fee 138 = .ok (.imul, 1) := by decide +kernel
theorem dL_fee_139 : decode cL_fee 139 = .ok (.bipush 100, 2) := by decide +kernel
theorem dL_fee_141 : decode cL_fee 141 = .ok (.idiv, 1) := by decide +kernel
theorem dL_fee_142 : decode cL_fee 142 = .ok (.ireturn, 1) := by decide +kernel
theorem dL_same_0 : decode cL_same 0 = .ok (.iconst 0, 1) := by decide +kernel
theorem dL_same_1 : decode cL_same 1 = .ok (.istore 6, 2) := by decide +kernel
theorem dL_same_3 : decode cL_same 3 = .ok (.iconst 0, 1) := by decide +kernel
theorem dL_same_4 : decode cL_same 4 = .ok (.istore 7, 2) := by decide +kernel
theorem dL_same_6 : decode cL_same 6 = .ok (.iconst 0, 1) := by decide +kernel
theorem dL_same_7 : decode cL_same 7 = .ok (.istore 8, 2) := by decide +kernel
theorem dL_same_9 : decode cL_same 9 = .ok (.iload 8, 2) := by decide +kernel
theorem dL_same_11 : decode cL_same 11 = .ok (.aload_n 1, 1) := by decide +kernel
theorem dL_same_12 : decode cL_same 12 = .ok (.bipush 7, 2) := by decide +kernel
theorem dL_same_14 : decode cL_same 14 = .ok (.iaload, 1) := by decide +kernel
theorem dL_same_15 : decode cL_same 15 = .ok (.if_icmp .ge 363, 3) := by decide +kernel
theorem dL_same_18 : decode cL_same 18 = .ok (.aload_n 2, 1) := by decide +kernel
theorem dL_same_19 : decode cL_same 19 = .ok (.iconst 4, 1) := by decide +kernel
theorem dL_same_20 : decode cL_same 20 = .ok (.iload 8, 2) := by decide +kernel
theorem dL_same_22 : decode cL_same 22 = .ok (.imul, 1) := by decide +kernel
theorem dL_same_23 : decode cL_same 23 = .ok (.iconst 2, 1) := by decide +kernel
theorem dL_same_24 : decode cL_same 24 = .ok (.iadd, 1) := by decide +kernel
theorem dL_same_25 : decode cL_same 25 = .ok (.iaload, 1) := by decide +kernel
theorem dL_same_26 : decode cL_same 26 = .ok (.iconst 1, 1) := by decide +kernel
theorem dL_same_27 : decode cL_same 27 = .ok (.if_icmp .ne 7, 3) := by decide +kernel
theorem dL_same_30 : decode cL_same 30 = .ok (.iconst 1, 1) := by decide +kernel
theorem dL_same_31 : decode cL_same 31 = .ok (.goto 4, 3) := by decide +kernel
theorem dL_same_34 : decode cL_same 34 = .ok (.iconst 0, 1) := by decide +kernel
theorem dL_same_35 : decode cL_same 35 = .ok (.istore 9, 2) := by decide +kernel
theorem dL_same_37 : decode cL_same 37 = .ok (.aload_n 0, 1) := by decide +kernel
theorem dL_same_38 : decode cL_same 38 = .ok (.iload 8, 2) := by decide +kernel
theorem dL_same_40 : decode cL_same 40 = .ok (.invokevirtual 47, 3) := by decide +kernel
theorem dL_same_43 : decode cL_same 43 = .ok (.aload_n 2, 1) := by decide +kernel
theorem dL_same_44 : decode cL_same 44 = .ok (.iconst 4, 1) := by decide +kernel
theorem dL_same_45 : decode cL_same 45 = .ok (.iload 8, 2) := by decide +kernel
theorem dL_same_47 : decode cL_same 47 = .ok (.imul, 1) := by decide +kernel
theorem dL_same_48 : decode cL_same 48 = .ok (.iaload, 1) := by decide +kernel
theorem dL_same_49 : decode cL_same 49 = .ok (.if_icmp .ne 35, 3) := by decide +kernel
theorem dL_same_52 : decode cL_same 52 = .ok (.aload_n 0, 1) := by decide +kernel
theorem dL_same_53 : decode cL_same 53 = .ok (.iload 8, 2) := by decide +kernel
theorem dL_same_55 : decode cL_same 55 = .ok (.invokevirtual 52, 3) := by decide +kernel
theorem dL_same_58 : decode cL_same 58 = .ok (.aload_n 2, 1) := by decide +kernel
theorem dL_same_59 : decode cL_same 59 = .ok (.iconst 4, 1) := by decide +kernel
theorem dL_same_60 : decode cL_same 60 = .ok (.iload 8, 2) := by decide +kernel
theorem dL_same_62 : decode cL_same 62 = .ok (.imul, 1) := by decide +kernel
theorem dL_same_63 : decode cL_same 63 = .ok (.iconst 2, 1) := by decide +kernel
theorem dL_same_64 : decode cL_same 64 = .ok (.iadd, 1) := by decide +kernel
theorem dL_same_65 : decode cL_same 65 = .ok (.iaload, 1) := by decide +kernel
theorem dL_same_66 : decode cL_same 66 = .ok (.if_icmp .ne 18, 3) := by decide +kernel
theorem dL_same_69 : decode cL_same 69 = .ok (.aload_n 0, 1) := by decide +kernel
theorem dL_same_70 : decode cL_same 70 = .ok (.iload 8, 2) := by decide +kernel
theorem dL_same_72 : decode cL_same 72 = .ok (.invokevirtual 55, 3) := by decide +kernel
theorem dL_same_75 : decode cL_same 75 = .ok (.iload 8, 2) := by decide +kernel
theorem dL_same_77 : decode cL_same 77 = .ok (.aload_n 3, 1) := by decide +kernel
theorem dL_same_78 : decode cL_same 78 = .ok (.invokestatic 31, 3) := by decide +kernel
theorem dL_same_81 : decode cL_same 81 = .ok (.if_icmp .eq 5, 3) := by decide +kernel
theorem dL_same_84 : decode cL_same 84 = .ok (.iconst 0, 1) := by decide +kernel
theorem dL_same_85 : decode cL_same 85 = .ok (.ireturn, 1) := by decide +kernel
theorem dL_same_86 : decode cL_same 86 = .ok (.aload_n 0, 1) := by decide +kernel
theorem dL_same_87 : decode cL_same 87 = .ok (.iload 8, 2) := by decide +kernel
theorem dL_same_89 : decode cL_same 89 = .ok (.invokevirtual 57, 3) := by decide +kernel
theorem dL_same_92 : decode cL_same 92 = .ok (.iload 9, 2) := by decide +kernel
theorem dL_same_94 : decode cL_same 94 = .ok (.ifCond .eq 8, 3) := by decide +kernel
theorem dL_same_97 : decode cL_same 97 = .ok (.bipush (-2), 2) := by decide +kernel
theorem dL_same_99 : decode cL_same 99 = .ok (.goto 11, 3) := by decide +kernel
theorem dL_same_102 : decode cL_same 102 = .ok (.iload 8, 2) := by decide +kernel
theorem dL_same_104 : decode cL_same 104 = .ok (.aload_n 1, 1) := by decide +kernel
theorem dL_same_105 : decode cL_same 105 = .ok (.aload_n 2, 1) := by decide +kernel
theorem dL_same_106 : decode cL_same 106 = .ok (.aload_n 3, 1) := by decide +kernel
theorem dL_same_107 : decode cL_same 107 = .ok (.invokestatic 35, 3) := by decide +kernel
theorem dL_same_110 : decode cL_same 110 = .ok (.if_icmp .ne 57, 3) := by decide +kernel
theorem dL_same_113 : decode cL_same 113 = .ok (.aload_n 0, 1) := by decide +kernel
theorem dL_same_114 : decode cL_same 114 = .ok (.iload 8, 2) := by decide +kernel
theorem dL_same_116 : decode cL_same 116 = .ok (.invokevirtual 59, 3) := by decide +kernel
theorem dL_same_119 : decode cL_same 119 = .ok (.iload 9, 2) := by decide +kernel
theorem dL_same_121 : decode cL_same 121 = .ok (.ifCond .eq 8, 3) := by decide +kernel
theorem dL_same_124 : decode cL_same 124 = .ok (.bipush (-2), 2) := by decide +kernel
theorem dL_same_126 : decode cL_same 126 = .ok (.goto 11, 3) := by decide +kernel
theorem dL_same_129 : decode cL_same 129 = .ok (.aload_n 2, 1) := by decide +kernel
theorem dL_same_130 : decode cL_same 130 = .ok (.iconst 4, 1) := by decide +kernel
theorem dL_same_131 : decode cL_same 131 = .ok (.iload 8, 2) := by decide +kernel
theorem dL_same_133 : decode cL_same 133 = .ok (.imul, 1) := by decide +kernel
theorem dL_same_134 : decode cL_same 134 = .ok (.iconst 3, 1) := by decide +kernel
theorem dL_same_135 : decode cL_same 135 = .ok (.iadd, 1) := by decide +kernel
theorem dL_same_136 : decode cL_same 136 = .ok (.iaload, 1) := by decide +kernel
theorem dL_same_137 : decode cL_same 137 = .ok (.if_icmp .ne 30, 3) := by decide +kernel
theorem dL_same_140 : decode cL_same 140 = .ok (.aload_n 0, 1) := by decide +kernel
theorem dL_same_141 : decode cL_same 141 = .ok (.iload 8, 2) := by decide +kernel
theorem dL_same_143 : decode cL_same 143 = .ok (.invokevirtual 62, 3) := by decide +kernel
theorem dL_same_146 : decode cL_same 146 = .ok (.iload 9, 2) := by decide +kernel
theorem dL_same_148 : decode cL_same 148 = .ok (.ifCond .eq 14, 3) := by decide +kernel
theorem dL_same_151 : decode cL_same 151 = .ok (.iload 8, 2) := by decide +kernel
theorem dL_same_153 : decode cL_same 153 = .ok (.aload_n 1, 1) := by decide +kernel
theorem dL_same_154 : decode cL_same 154 = .ok (.aload_n 2, 1) := by decide +kernel
theorem dL_same_155 : decode cL_same 155 = .ok (.aload_n 3, 1) := by decide +kernel
theorem dL_same_156 : decode cL_same 156 = .ok (.invokestatic 65, 3) := by decide +kernel
theorem dL_same_159 : decode cL_same 159 = .ok (.goto 5, 3) := by decide +kernel
theorem dL_same_162 : decode cL_same 162 = .ok (.bipush (-2), 2) := by decide +kernel
theorem dL_same_164 : decode cL_same 164 = .ok (.if_icmp .eq 5, 3) := by decide +kernel
theorem dL_same_167 : decode cL_same 167 = .ok (.iconst 0, 1) := by decide +kernel
theorem dL_same_168 : decode cL_same 168 = .ok (.ireturn, 1) := by decide +kernel
theorem dL_same_169 : decode cL_same 169 = .ok (.iload 6, 2) := by decide +kernel
theorem dL_same_171 : decode cL_same 171 = .ok (.iload 9, 2) := by decide +kernel
theorem dL_same_173 : decode cL_same 173 = .ok (.ifCond .eq 14, 3) := by decide +kernel
theorem dL_same_176 : decode cL_same 176 = .ok (.iload 8, 2) := by decide +kernel
theorem dL_same_178 : decode cL_same 178 = .ok (.aload_n 1, 1) := by decide +kernel
theorem dL_same_179 : decode cL_same 179 = .ok (.aload_n 2, 1) := by decide +kernel
theorem dL_same_180 : decode cL_same 180 = .ok (.aload_n 3, 1) := by decide +kernel
theorem dL_same_181 : decode cL_same 181 = .ok (.invokestatic 65, 3) := by decide +kernel
theorem dL_same_184 : decode cL_same 184 = .ok (.goto 4, 3) := by decide +kernel
theorem dL_same_187 : decode cL_same 187 = .ok (.iconst 0, 1) := by decide +kernel
theorem dL_same_188 : decode cL_same 188 = .ok (.iadd, 1) := by decide +kernel
theorem dL_same_189 : decode cL_same 189 = .ok (.istore 6, 2) := by decide +kernel
theorem dL_same_191 : decode cL_same 191 = .ok (.iload 9, 2) := by decide +kernel
theorem dL_same_193 : decode cL_same 193 = .ok (.ifCond .eq 6, 3) := by decide +kernel
theorem dL_same_196 : decode cL_same 196 = .ok (.goto 176, 3) := by decide +kernel
theorem dL_same_199 : decode cL_same 199 = .ok (.iconst 0, 1) := by decide +kernel
theorem dL_same_200 : decode cL_same 200 = .ok (.istore 10, 2) := by decide +kernel
theorem dL_same_202 : decode cL_same 202 = .ok (.iconst 0, 1) := by decide +kernel
theorem dL_same_203 : decode cL_same 203 = .ok (.istore 11, 2) := by decide +kernel
theorem dL_same_205 : decode cL_same 205 = .ok (.iload 11, 2) := by decide +kernel
theorem dL_same_207 : decode cL_same 207 = .ok (.aload_n 1, 1) := by decide +kernel
theorem dL_same_208 : decode cL_same 208 = .ok (.bipush 7, 2) := by decide +kernel
theorem dL_same_210 : decode cL_same 210 = .ok (.iaload, 1) := by decide +kernel
theorem dL_same_211 : decode cL_same 211 = .ok (.if_icmp .ge 50, 3) := by decide +kernel
theorem dL_same_214 : decode cL_same 214 = .ok (.iload 10, 2) := by decide +kernel
theorem dL_same_216 : decode cL_same 216 = .ok (.iload 11, 2) := by decide +kernel
theorem dL_same_218 : decode cL_same 218 = .ok (.iload 8, 2) := by decide +kernel
theorem dL_same_220 : decode cL_same 220 = .ok (.if_icmp .eq 31, 3) := by decide +kernel
theorem dL_same_223 : decode cL_same 223 = .ok (.aload_n 2, 1) := by decide +kernel
theorem dL_same_224 : decode cL_same 224 = .ok (.iconst 4, 1) := by decide +kernel
theorem dL_same_225 : decode cL_same 225 = .ok (.iload 11, 2) := by decide +kernel
theorem dL_same_227 : decode cL_same 227 = .ok (.imul, 1) := by decide +kernel
theorem dL_same_228 : decode cL_same 228 = .ok (.iconst 2, 1) := by decide +kernel
theorem dL_same_229 : decode cL_same 229 = .ok (.iadd, 1) := by decide +kernel
theorem dL_same_230 : decode cL_same 230 = .ok (.iaload, 1) := by decide +kernel
theorem dL_same_231 : decode cL_same 231 = .ok (.ifCond .ne 20, 3) := by decide +kernel
theorem dL_same_234 : decode cL_same 234 = .ok (.iload 11, 2) := by decide +kernel
theorem dL_same_236 : decode cL_same 236 = .ok (.iload 8, 2) := by decide +kernel
theorem dL_same_238 : decode cL_same 238 = .ok (.aload_n 1, 1) := by decide +kernel
theorem dL_same_239 : decode cL_same 239 = .ok (.aload_n 2, 1) := by decide +kernel
theorem dL_same_240 : decode cL_same 240 = .ok (.aload_n 3, 1) := by decide +kernel
theorem dL_same_241 : decode cL_same 241 = .ok (.invokestatic 43, 3) := by decide +kernel
theorem dL_same_244 : decode cL_same 244 = .ok (.ifCond .eq 7, 3) := by decide +kernel
theorem dL_same_247 : decode cL_same 247 = .ok (.iconst 1, 1) := by decide +kernel
theorem dL_same_248 : decode cL_same 248 = .ok (.goto 4, 3) := by decide +kernel
theorem dL_same_251 : decode cL_same 251 = .ok (.iconst 0, 1) := by decide +kernel
theorem dL_same_252 : decode cL_same 252 = .ok (.iadd, 1) := by decide +kernel
theorem dL_same_253 : decode cL_same 253 = .ok (.istore 10, 2) := by decide +kernel
theorem dL_same_255 : decode cL_same 255 = .ok (.iinc 11 1, 3) := by decide +kernel
theorem dL_same_258 : decode cL_same 258 = .ok (.goto (-53), 3) := by decide +kernel
theorem dL_same_261 : decode cL_same 261 = .ok (.aload_n 2, 1) := by decide +kernel
theorem dL_same_262 : decode cL_same 262 = .ok (.iconst 4, 1) := by decide +kernel
theorem dL_same_263 : decode cL_same 263 = .ok (.iload 8, 2) := by decide +kernel
theorem dL_same_265 : decode cL_same 265 = .ok (.imul, 1) := by decide +kernel
theorem dL_same_266 : decode cL_same 266 = .ok (.iconst 2, 1) := by decide +kernel
theorem dL_same_267 : decode cL_same 267 = .ok (.iadd, 1) := by decide +kernel
theorem dL_same_268 : decode cL_same 268 = .ok (.iconst 1, 1) := by decide +kernel
theorem dL_same_269 : decode cL_same 269 = .ok (.iastore, 1) := by decide +kernel
theorem dL_same_270 : decode cL_same 270 = .ok (.iconst 0, 1) := by decide +kernel
theorem dL_same_271 : decode cL_same 271 = .ok (.istore 11, 2) := by decide +kernel
theorem dL_same_273 : decode cL_same 273 = .ok (.iconst 0, 1) := by decide +kernel
theorem dL_same_274 : decode cL_same 274 = .ok (.istore 12, 2) := by decide +kernel
theorem dL_same_276 : decode cL_same 276 = .ok (.iload 12, 2) := by decide +kernel
theorem dL_same_278 : decode cL_same 278 = .ok (.aload_n 1, 1) := by decide +kernel
theorem dL_same_279 : decode cL_same 279 = .ok (.bipush 7, 2) := by decide +kernel
theorem dL_same_281 : decode cL_same 281 = .ok (.iaload, 1) := by decide +kernel
theorem dL_same_282 : decode cL_same 282 = .ok (.if_icmp .ge 57, 3) := by decide +kernel
theorem dL_same_285 : decode cL_same 285 = .ok (.iload 11, 2) := by decide +kernel
theorem dL_same_287 : decode cL_same 287 = .ok (.aload_n 2, 1) := by decide +kernel
theorem dL_same_288 : decode cL_same 288 = .ok (.iconst 4, 1) := by decide +kernel
theorem dL_same_289 : decode cL_same 289 = .ok (.iload 12, 2) := by decide +kernel
theorem dL_same_291 : decode cL_same 291 = .ok (.imul, 1) := by decide +kernel
theorem dL_same_292 : decode cL_same 292 = .ok (.iconst 2, 1) := by decide +kernel
theorem dL_same_293 : decode cL_same 293 = .ok (.iadd, 1) := by decide +kernel
theorem dL_same_294 : decode cL_same 294 = .ok (.iaload, 1) := by decide +kernel
theorem dL_same_295 : decode cL_same 295 = .ok (.iconst 1, 1) := by decide +kernel
theorem dL_same_296 : decode cL_same 296 = .ok (.if_icmp .ne 33, 3) := by decide +kernel
theorem dL_same_299 : decode cL_same 299 = .ok (.aload_n 2, 1) := by decide +kernel
theorem dL_same_300 : decode cL_same 300 = .ok (.iconst 4, 1) := by decide +kernel
theorem dL_same_301 : decode cL_same 301 = .ok (.iload 12, 2) := by decide +kernel
theorem dL_same_303 : decode cL_same 303 = .ok (.imul, 1) := by decide +kernel
theorem dL_same_304 : decode cL_same 304 = .ok (.iconst 1, 1) := by decide +kernel
theorem dL_same_305 : decode cL_same 305 = .ok (.iadd, 1) := by decide +kernel
theorem dL_same_306 : decode cL_same 306 = .ok (.iaload, 1) := by decide +kernel
theorem dL_same_307 : decode cL_same 307 = .ok (.aload_n 2, 1) := by decide +kernel
theorem dL_same_308 : decode cL_same 308 = .ok (.iconst 4, 1) := by decide +kernel
theorem dL_same_309 : decode cL_same 309 = .ok (.iload 8, 2) := by decide +kernel
theorem dL_same_311 : decode cL_same 311 = .ok (.imul, 1) := by decide +kernel
theorem dL_same_312 : decode cL_same 312 = .ok (.iconst 1, 1) := by decide +kernel
theorem dL_same_313 : decode cL_same 313 = .ok (.iadd, 1) := by decide +kernel
theorem dL_same_314 : decode cL_same 314 = .ok (.iaload, 1) := by decide +kernel
theorem dL_same_315 : decode cL_same 315 = .ok (.if_icmp .ne 14, 3) := by decide +kernel
theorem dL_same_318 : decode cL_same 318 = .ok (.iload 12, 2) := by decide +kernel
theorem dL_same_320 : decode cL_same 320 = .ok (.aload_n 1, 1) := by decide +kernel
theorem dL_same_321 : decode cL_same 321 = .ok (.aload_n 2, 1) := by decide +kernel
theorem dL_same_322 : decode cL_same 322 = .ok (.aload_n 3, 1) := by decide +kernel
theorem dL_same_323 : decode cL_same 323 = .ok (.invokestatic 65, 3) := by decide +kernel
theorem dL_same_326 : decode cL_same 326 = .ok (.goto 4, 3) := by decide +kernel
theorem dL_same_329 : decode cL_same 329 = .ok (.iconst 0, 1) := by decide +kernel
theorem dL_same_330 : decode cL_same 330 = .ok (.iadd, 1) := by decide +kernel
theorem dL_same_331 : decode cL_same 331 = .ok (.istore 11, 2) := by decide +kernel
theorem dL_same_333 : decode cL_same 333 = .ok (.iinc 12 1, 3) := by decide +kernel
theorem dL_same_336 : decode cL_same 336 = .ok (.goto (-60), 3) := by decide +kernel
theorem dL_same_339 : decode cL_same 339 = .ok (.aload_n 2, 1) := by decide +kernel
theorem dL_same_340 : decode cL_same 340 = .ok (.iconst 4, 1) := by decide +kernel
theorem dL_same_341 : decode cL_same 341 = .ok (.iload 8, 2) := by decide +kernel
theorem dL_same_343 : decode cL_same 343 = .ok (.imul, 1) := by decide +kernel
theorem dL_same_344 : decode cL_same 344 = .ok (.iconst 2, 1) := by decide +kernel
theorem dL_same_345 : decode cL_same 345 = .ok (.iadd, 1) := by decide +kernel
theorem dL_same_346 : decode cL_same 346 = .ok (.iconst 0, 1) := by decide +kernel
theorem dL_same_347 : decode cL_same 347 = .ok (.iastore, 1) := by decide +kernel
theorem dL_same_348 : decode cL_same 348 = .ok (.aload_n 0, 1) := by decide +kernel
theorem dL_same_349 : decode cL_same 349 = .ok (.iload 10, 2) := by decide +kernel
theorem dL_same_351 : decode cL_same 351 = .ok (.invokevirtual 67, 3) := by decide +kernel
theorem dL_same_354 : decode cL_same 354 = .ok (.iload 8, 2) := by decide +kernel
theorem dL_same_356 : decode cL_same 356 = .ok (.if_icmp .ne 14, 3) := by decide +kernel
theorem dL_same_359 : decode cL_same 359 = .ok (.aload_n 0, 1) := by decide +kernel
theorem dL_same_360 : decode cL_same 360 = .ok (.iload 8, 2) := by decide +kernel
theorem dL_same_362 : decode cL_same 362 = .ok (.invokevirtual 70, 3) := by decide +kernel
theorem dL_same_365 : decode cL_same 365 = .ok (.iload 11, 2) := by decide +kernel
theorem dL_same_367 : decode cL_same 367 = .ok (.if_icmp .eq 5, 3) := by decide +kernel
theorem dL_same_370 : decode cL_same 370 = .ok (.iconst 0, 1) := by decide +kernel
theorem dL_same_371 : decode cL_same 371 = .ok (.ireturn, 1) := by decide +kernel
theorem dL_same_372 : decode cL_same 372 = .ok (.iinc 8 1, 3) := by decide +kernel
theorem dL_same_375 : decode cL_same 375 = .ok (.goto (-366), 3) := by decide +kernel
theorem dL_same_378 : decode cL_same 378 = .ok (.iconst 0, 1) := by decide +kernel
theorem dL_same_379 : decode cL_same 379 = .ok (.istore 8, 2) := by decide +kernel
theorem dL_same_381 : decode cL_same 381 = .ok (.iload 8, 2) := by decide +kernel
theorem dL_same_383 : decode cL_same 383 = .ok (.iconst 5, 1) := by decide +kernel
theorem dL_same_384 : decode cL_same 384 = .ok (.if_icmp .ge 187, 3) := by decide +kernel
theorem dL_same_387 : decode cL_same 387 = .ok (.iconst 0, 1) := by decide +kernel
theorem dL_same_388 : decode cL_same 388 = .ok (.istore 9, 2) := by decide +kernel
theorem dL_same_390 : decode cL_same 390 = .ok (.iconst 0, 1) := by decide +kernel
theorem dL_same_391 : decode cL_same 391 = .ok (.istore 10, 2) := by decide +kernel
theorem dL_same_393 : decode cL_same 393 = .ok (.iconst 0, 1) := by decide +kernel
theorem dL_same_394 : decode cL_same 394 = .ok (.istore 11, 2) := by decide +kernel
theorem dL_same_396 : decode cL_same 396 = .ok (.iload 11, 2) := by decide +kernel
theorem dL_same_398 : decode cL_same 398 = .ok (.bipush 10, 2) := by decide +kernel
theorem dL_same_400 : decode cL_same 400 = .ok (.if_icmp .ge 137, 3) := by decide +kernel
theorem dL_same_403 : decode cL_same 403 = .ok (.aload_n 0, 1) := by decide +kernel
theorem dL_same_404 : decode cL_same 404 = .ok (.iload 8, 2) := by decide +kernel
theorem dL_same_406 : decode cL_same 406 = .ok (.iload 11, 2) := by decide +kernel
theorem dL_same_408 : decode cL_same 408 = .ok (.invokevirtual 73, 3) := by decide +kernel
theorem dL_same_411 : decode cL_same 411 = .ok (.iload 8, 2) := by decide +kernel
theorem dL_same_413 : decode cL_same 413 = .ok (.iload 11, 2) := by decide +kernel
theorem dL_same_415 : decode cL_same 415 = .ok (.aload_n 1, 1) := by decide +kernel
theorem dL_same_416 : decode cL_same 416 = .ok (.aload_n 2, 1) := by decide +kernel
theorem dL_same_417 : decode cL_same 417 = .ok (.aload_n 3, 1) := by decide +kernel
theorem dL_same_418 : decode cL_same 418 = .ok (.invokestatic 20, 3) := by decide +kernel
theorem dL_same_421 : decode cL_same 421 = .ok (.if_icmp .ne 48, 3) := by decide +kernel
theorem dL_same_424 : decode cL_same 424 = .ok (.aload_n 0, 1) := by decide +kernel
theorem dL_same_425 : decode cL_same 425 = .ok (.iload 8, 2) := by decide +kernel
theorem dL_same_427 : decode cL_same 427 = .ok (.iload 11, 2) := by decide +kernel
theorem dL_same_429 : decode cL_same 429 = .ok (.invokevirtual 76, 3) := by decide +kernel
theorem dL_same_432 : decode cL_same 432 = .ok (.iload 8, 2) := by decide +kernel
theorem dL_same_434 : decode cL_same 434 = .ok (.iload 11, 2) := by decide +kernel
theorem dL_same_436 : decode cL_same 436 = .ok (.aload_n 1, 1) := by decide +kernel
theorem dL_same_437 : decode cL_same 437 = .ok (.aload_n 2, 1) := by decide +kernel
theorem dL_same_438 : decode cL_same 438 = .ok (.aload_n 3, 1) := by decide +kernel
theorem dL_same_439 : decode cL_same 439 = .ok (.invokestatic 24, 3) := by decide +kernel
theorem dL_same_442 : decode cL_same 442 = .ok (.if_icmp .ne 27, 3) := by decide +kernel
theorem dL_same_445 : decode cL_same 445 = .ok (.aload_n 0, 1) := by decide +kernel
theorem dL_same_446 : decode cL_same 446 = .ok (.iload 8, 2) := by decide +kernel
theorem dL_same_448 : decode cL_same 448 = .ok (.iload 11, 2) := by decide +kernel
theorem dL_same_450 : decode cL_same 450 = .ok (.invokevirtual 78, 3) := by decide +kernel
theorem dL_same_453 : decode cL_same 453 = .ok (.iload 8, 2) := by decide +kernel
theorem dL_same_455 : decode cL_same 455 = .ok (.iload 11, 2) := by decide +kernel
theorem dL_same_457 : decode cL_same 457 = .ok (.iconst (-1), 1) := by decide +kernel
theorem dL_same_458 : decode cL_same 458 = .ok (.aload_n 1, 1) := by decide +kernel
theorem dL_same_459 : decode cL_same 459 = .ok (.aload 4, 2) := by decide +kernel
theorem dL_same_461 : decode cL_same 461 = .ok (.aload 5, 2) := by decide +kernel
theorem dL_same_463 : decode cL_same 463 = .ok (.invokestatic 27, 3) := by decide +kernel
theorem dL_same_466 : decode cL_same 466 = .ok (.if_icmp .eq 5, 3) := by decide +kernel
theorem dL_same_469 : decode cL_same 469 = .ok (.iconst 0, 1) := by decide +kernel
theorem dL_same_470 : decode cL_same 470 = .ok (.ireturn, 1) := by decide +kernel
theorem dL_same_471 : decode cL_same 471 = .ok (.iload 7, 2) := by decide +kernel
theorem dL_same_473 : decode cL_same 473 = .ok (.iload 8, 2) := by decide +kernel
theorem dL_same_475 : decode cL_same 475 = .ok (.iload 11, 2) := by decide +kernel
theorem dL_same_477 : decode cL_same 477 = .ok (.aload_n 1, 1) := by decide +kernel
theorem dL_same_478 : decode cL_same 478 = .ok (.aload_n 2, 1) := by decide +kernel
theorem dL_same_479 : decode cL_same 479 = .ok (.aload_n 3, 1) := by decide +kernel
theorem dL_same_480 : decode cL_same 480 = .ok (.aload 4, 2) := by decide +kernel
theorem dL_same_482 : decode cL_same 482 = .ok (.aload 5, 2) := by decide +kernel
theorem dL_same_484 : decode cL_same 484 = .ok (.invokestatic 39, 3) := by decide +kernel
theorem dL_same_487 : decode cL_same 487 = .ok (.ifCond .eq 7, 3) := by decide +kernel
theorem dL_same_490 : decode cL_same 490 = .ok (.iconst 0, 1) := by decide +kernel
theorem dL_same_491 : decode cL_same 491 = .ok (.goto 4, 3) := by decide +kernel
theorem dL_same_494 : decode cL_same 494 = .ok (.iconst 1, 1) := by decide +kernel
theorem dL_same_495 : decode cL_same 495 = .ok (.iadd, 1) := by decide +kernel
theorem dL_same_496 : decode cL_same 496 = .ok (.istore 7, 2) := by decide +kernel
theorem dL_same_498 : decode cL_same 498 = .ok (.iload 9, 2) := by decide +kernel
theorem dL_same_500 : decode cL_same 500 = .ok (.iload 8, 2) := by decide +kernel
theorem dL_same_502 : decode cL_same 502 = .ok (.iload 11, 2) := by decide +kernel
theorem dL_same_504 : decode cL_same 504 = .ok (.aload_n 1, 1) := by decide +kernel
theorem dL_same_505 : decode cL_same 505 = .ok (.aload_n 2, 1) := by decide +kernel
theorem dL_same_506 : decode cL_same 506 = .ok (.aload_n 3, 1) := by decide +kernel
theorem dL_same_507 : decode cL_same 507 = .ok (.invokestatic 20, 3) := by decide +kernel
theorem dL_same_510 : decode cL_same 510 = .ok (.iadd, 1) := by decide +kernel
theorem dL_same_511 : decode cL_same 511 = .ok (.istore 9, 2) := by decide +kernel
theorem dL_same_513 : decode cL_same 513 = .ok (.iload 10, 2) := by decide +kernel
theorem dL_same_515 : decode cL_same 515 = .ok (.iload 8, 2) := by decide +kernel
theorem dL_same_517 : decode cL_same 517 = .ok (.iload 11, 2) := by decide +kernel
theorem dL_same_519 : decode cL_same 519 = .ok (.iconst (-1), 1) := by decide +kernel
theorem dL_same_520 : decode cL_same 520 = .ok (.aload_n 1, 1) := by decide +kernel
theorem dL_same_521 : decode cL_same 521 = .ok (.aload 4, 2) := by decide +kernel
theorem dL_same_523 : decode cL_same 523 = .ok (.aload 5, 2) := by decide +kernel
theorem dL_same_525 : decode cL_same 525 = .ok (.invokestatic 27, 3) := by decide +kernel
theorem dL_same_528 : decode cL_same 528 = .ok (.iadd, 1) := by decide +kernel
theorem dL_same_529 : decode cL_same 529 = .ok (.istore 10, 2) := by decide +kernel
theorem dL_same_531 : decode cL_same 531 = .ok (.iinc 11 1, 3) := by decide +kernel
theorem dL_same_534 : decode cL_same 534 = .ok (.goto (-138), 3) := by decide +kernel
theorem dL_same_537 : decode cL_same 537 = .ok (.aload_n 0, 1) := by decide +kernel
theorem dL_same_538 : decode cL_same 538 = .ok (.iload 8, 2) := by decide +kernel
theorem dL_same_540 : decode cL_same 540 = .ok (.invokevirtual 80, 3) := by decide +kernel
theorem dL_same_543 : decode cL_same 543 = .ok (.iload 10, 2) := by decide +kernel
theorem dL_same_545 : decode cL_same 545 = .ok (.ifCond .ne 7, 3) := by decide +kernel
theorem dL_same_548 : decode cL_same 548 = .ok (.dconst 0, 1) := by decide +kernel
theorem dL_same_549 : decode cL_same 549 = .ok (.goto 10, 3) := by decide +kernel
theorem dL_same_552 : decode cL_same 552 = .ok (.iload 9, 2) := by decide +kernel
theorem dL_same_554 : decode cL_same 554 = .ok (.i2d, 1) := by decide +kernel
theorem dL_same_555 : decode cL_same 555 = .ok (.iload 10, 2) := by decide +kernel
theorem dL_same_557 : decode cL_same 557 = .ok (.i2d, 1) := by decide +kernel
theorem dL_same_558 : decode cL_same 558 = .ok (.ddiv, 1) := by decide +kernel
theorem dL_same_559 : decode cL_same 559 = .ok (.dcmp .l, 1) := by decide +kernel
theorem dL_same_560 : decode cL_same 560 = .ok (.ifCond .eq 5, 3) := by decide +kernel
theorem dL_same_563 : decode cL_same 563 = .ok (.iconst 0, 1) := by decide +kernel
theorem dL_same_564 : decode cL_same 564 = .ok (.ireturn, 1) := by decide +kernel
theorem dL_same_565 : decode cL_same 565 = .ok (.iinc 8 1, 3) := by decide +kernel
theorem dL_same_568 : decode cL_same 568 = .ok (.goto (-187), 3) := by decide +kernel
theorem dL_same_571 : decode cL_same 571 = .ok (.aload_n 0, 1) := by decide +kernel
theorem dL_same_572 : decode cL_same 572 = .ok (.invokevirtual 84, 3) := by decide +kernel
theorem dL_same_575 : decode cL_same 575 = .ok (.iload 6, 2) := by decide +kernel
theorem dL_same_577 : decode cL_same 577 = .ok (.if_icmp .ne 27, 3) := by decide +kernel
theorem dL_same_580 : decode cL_same 580 = .ok (.aload_n 0, 1) := by decide +kernel
theorem dL_same_581 : decode cL_same 581 = .ok (.invokevirtual 88, 3) := by decide +kernel
theorem dL_same_584 : decode cL_same 584 = .ok (.iload 7, 2) := by decide +kernel
theorem dL_same_586 : decode cL_same 586 = .ok (.if_icmp .ne 18, 3) := by decide +kernel
theorem dL_same_589 : decode cL_same 589 = .ok (.aload_n 0, 1) := by decide +kernel
theorem dL_same_590 : decode cL_same 590 = .ok (.invokevirtual 91, 3) := by decide +kernel
theorem dL_same_593 : decode cL_same 593 = .ok (.aload_n 1, 1) := by decide +kernel
theorem dL_same_594 : decode cL_same 594 = .ok (.bipush 7, 2) := by decide +kernel
theorem dL_same_596 : decode cL_same 596 = .ok (.iaload, 1) := by decide +kernel
theorem dL_same_597 : decode cL_same 597 = .ok (.if_icmp .ne 7, 3) := by decide +kernel
theorem dL_same_600 : decode cL_same 600 = .ok (.iconst 1, 1) := by decide +kernel
theorem dL_same_601 : decode cL_same 601 = .ok (.goto 4, 3) := by decide +kernel
theorem dL_same_604 : decode cL_same 604 = .ok (.iconst 0, 1) := by decide +kernel
theorem dL_same_605 : decode cL_same 605 = .ok (.ireturn, 1) := by decide +kernel
theorem dL_shortage_0 : decode cL_shortage 0 = .ok (.iconst 0, 1) := by decide +kernel
theorem dL_shortage_1 : decode cL_shortage 1 = .ok (.istore 7, 2) := by decide +kernel
theorem dL_shortage_3 : decode cL_shortage 3 = .ok (.iconst 0, 1) := by decide +kernel
theorem dL_shortage_4 : decode cL_shortage 4 = .ok (.istore 8, 2) := by decide +kernel
theorem dL_shortage_6 : decode cL_shortage 6 = .ok (.iload 8, 2) := by decide +kernel
theorem dL_shortage_8 : decode cL_shortage 8 = .ok (.bipush 10, 2) := by decide +kernel
theorem dL_shortage_10 : decode cL_shortage 10 = .ok (.if_icmp .ge 50, 3) := by decide +kernel
theorem dL_shortage_13 : decode cL_shortage 13 = .ok (.iload_n 1, 1) := by decide +kernel
theorem dL_shortage_14 : decode cL_shortage 14 = .ok (.iload 8, 2) := by decide +kernel
theorem dL_shortage_16 : decode cL_shortage 16 = .ok (.aload_n 2, 1) := by decide +kernel
theorem dL_shortage_17 : decode cL_shortage 17 = .ok (.aload_n 3, 1) := by decide +kernel
theorem dL_shortage_18 : decode cL_shortage 18 = .ok (.aload 4, 2) := by decide +kernel
theorem dL_shortage_20 : decode cL_shortage 20 = .ok (.invokestatic 24, 3) := by decide +kernel
theorem dL_shortage_23 : decode cL_shortage 23 = .ok (.iload_n 1, 1) := by decide +kernel
theorem dL_shortage_24 : decode cL_shortage 24 = .ok (.iload 8, 2) := by decide +kernel
theorem dL_shortage_26 : decode cL_shortage 26 = .ok (.iload_n 0, 1) := by decide +kernel
theorem dL_shortage_27 : decode cL_shortage 27 = .ok (.aload_n 2, 1) := by decide +kernel
theorem dL_shortage_28 : decode cL_shortage 28 = .ok (.aload 5, 2) := by decide +kernel
theorem dL_shortage_30 : decode cL_shortage 30 = .ok (.aload 6, 2) := by decide +kernel
theorem dL_shortage_32 : decode cL_shortage 32 = .ok (.invokestatic 27, 3) := by decide +kernel
theorem dL_shortage_35 : decode cL_shortage 35 = .ok (.isub, 1) := by decide +kernel
theorem dL_shortage_36 : decode cL_shortage 36 = .ok (.istore 9, 2) := by decide +kernel
theorem dL_shortage_38 : decode cL_shortage 38 = .ok (.iload 9, 2) := by decide +kernel
theorem dL_shortage_40 : decode cL_shortage 40 = .ok (.iload 7, 2) := by decide +kernel
theorem dL_shortage_42 : decode cL_shortage 42 = .ok (.if_icmp .le 8, 3) := by decide +kernel
theorem dL_shortage_45 : decode cL_shortage 45 = .ok (.iload 9, 2) := by decide +kernel
theorem dL_shortage_47 : decode cL_shortage 47 = .ok (.goto 5, 3) := by decide +kernel
theorem dL_shortage_50 : decode cL_shortage 50 = .ok (.iload 7, 2) := by decide +kernel
theorem dL_shortage_52 : decode cL_shortage 52 = .ok (.istore 7, 2) := by decide +kernel
theorem dL_shortage_54 : decode cL_shortage 54 = .ok (.iinc 8 1, 3) := by decide +kernel
theorem dL_shortage_57 : decode cL_shortage 57 = .ok (.goto (-51), 3) := by decide +kernel
theorem dL_shortage_60 : decode cL_shortage 60 = .ok (.iload 7, 2) := by decide +kernel
theorem dL_shortage_62 : decode cL_shortage 62 = .ok (.ireturn, 1) := by decide +kernel
theorem dL_cover_0 : decode cL_cover 0 = .ok (.iconst 5, 1) := by decide +kernel
theorem dL_cover_1 : decode cL_cover 1 = .ok (.newarray .int, 2) := by decide +kernel
theorem dL_cover_3 : decode cL_cover 3 = .ok (.astore 9, 2) := by decide +kernel
theorem dL_cover_5 : decode cL_cover 5 = .ok (.iconst 5, 1) := by decide +kernel
theorem dL_cover_6 : decode cL_cover 6 = .ok (.newarray .int, 2) := by decide +kernel
theorem dL_cover_8 : decode cL_cover 8 = .ok (.astore 10, 2) := by decide +kernel
theorem dL_cover_10 : decode cL_cover 10 = .ok (.iconst 0, 1) := by decide +kernel
theorem dL_cover_11 : decode cL_cover 11 = .ok (.istore 11, 2) := by decide +kernel
theorem dL_cover_13 : decode cL_cover 13 = .ok (.iload 11, 2) := by decide +kernel
theorem dL_cover_15 : decode cL_cover 15 = .ok (.iconst 5, 1) := by decide +kernel
theorem dL_cover_16 : decode cL_cover 16 = .ok (.if_icmp .ge 28, 3) := by decide +kernel
theorem dL_cover_19 : decode cL_cover 19 = .ok (.aload 9, 2) := by decide +kernel
theorem dL_cover_21 : decode cL_cover 21 = .ok (.iload 11, 2) := by decide +kernel
theorem dL_cover_23 : decode cL_cover 23 = .ok (.iload_n 0, 1) := by decide +kernel
theorem dL_cover_24 : decode cL_cover 24 = .ok (.iload 11, 2) := by decide +kernel
theorem dL_cover_26 : decode cL_cover 26 = .ok (.aload_n 2, 1) := by decide +kernel
theorem dL_cover_27 : decode cL_cover 27 = .ok (.aload_n 3, 1) := by decide +kernel
theorem dL_cover_28 : decode cL_cover 28 = .ok (.aload 4, 2) := by decide +kernel
theorem dL_cover_30 : decode cL_cover 30 = .ok (.aload 5, 2) := by decide +kernel
theorem dL_cover_32 : decode cL_cover 32 = .ok (.aload 6, 2) := by decide +kernel
theorem dL_cover_34 : decode cL_cover 34 = .ok (.invokestatic 94, 3) := by decide +kernel
theorem dL_cover_37 : decode cL_cover 37 = .ok (.iastore, 1) := by decide +kernel
theorem dL_cover_38 : decode cL_cover 38 = .ok (.iinc 11 1, 3) := by decide +kernel
theorem dL_cover_41 : decode cL_cover 41 = .ok (.goto (-28), 3) := by decide +kernel
theorem dL_cover_44 : decode cL_cover 44 = .ok (.iconst (-1), 1) := by decide +kernel
theorem dL_cover_45 : decode cL_cover 45 = .ok (.istore 11, 2) := by decide +kernel
theorem dL_cover_47 : decode cL_cover 47 = .ok (.iconst 0, 1) := by decide +kernel
theorem dL_cover_48 : decode cL_cover 48 = .ok (.istore 12, 2) := by decide +kernel
theorem dL_cover_50 : decode cL_cover 50 = .ok (.iload 12, 2) := by decide +kernel
theorem dL_cover_52 : decode cL_cover 52 = .ok (.sipush 1024, 3) := by decide +kernel
theorem dL_cover_55 : decode cL_cover 55 = .ok (.if_icmp .ge 278, 3) := by decide +kernel
theorem dL_cover_58 : decode cL_cover 58 = .ok (.iconst 0, 1) := by decide +kernel
theorem dL_cover_59 : decode cL_cover 59 = .ok (.istore 13, 2) := by decide +kernel
theorem dL_cover_61 : decode cL_cover 61 = .ok (.iconst 1, 1) := by decide +kernel
theorem dL_cover_62 : decode cL_cover 62 = .ok (.istore 14, 2) := by decide +kernel
theorem dL_cover_64 : decode cL_cover 64 = .ok (.iconst 0, 1) := by decide +kernel
theorem dL_cover_65 : decode cL_cover 65 = .ok (.istore 15, 2) := by decide +kernel
theorem dL_cover_67 : decode cL_cover 67 = .ok (.iload 15, 2) := by decide +kernel
theorem dL_cover_69 : decode cL_cover 69 = .ok (.iconst 5, 1) := by decide +kernel
theorem dL_cover_70 : decode cL_cover 70 = .ok (.if_icmp .ge 60, 3) := by decide +kernel
theorem dL_cover_73 : decode cL_cover 73 = .ok (.aload 10, 2) := by decide +kernel
theorem dL_cover_75 : decode cL_cover 75 = .ok (.iload 15, 2) := by decide +kernel
theorem dL_cover_77 : decode cL_cover 77 = .ok (.iload 12, 2) := by decide +kernel
theorem dL_cover_79 : decode cL_cover 79 = .ok (.iconst 2, 1) := by decide +kernel
theorem dL_cover_80 : decode cL_cover 80 = .ok (.iconst 4, 1) := by decide +kernel
theorem dL_cover_81 : decode cL_cover 81 = .ok (.iload 15, 2) := by decide +kernel
theorem dL_cover_83 : decode cL_cover 83 = .ok (.isub, 1) := by decide +kernel
theorem dL_cover_84 : decode cL_cover 84 = .ok (.imul, 1) := by decide +kernel
theorem dL_cover_85 : decode cL_cover 85 = .ok (.ishr, 1) := by decide +kernel
theorem dL_cover_86 : decode cL_cover 86 = .ok (.iconst 3, 1) := by decide +kernel
theorem dL_cover_87 : decode cL_cover 87 = .ok (.iand, 1) := by decide +kernel
theorem dL_cover_88 : decode cL_cover 88 = .ok (.iastore, 1) := by decide +kernel
theorem dL_cover_89 : decode cL_cover 89 = .ok (.iload 14, 2) := by decide +kernel
theorem dL_cover_91 : decode cL_cover 91 = .ok (.ifCond .eq 30, 3) := by decide +kernel
theorem dL_cover_94 : decode cL_cover 94 = .ok (.aload 10, 2) := by decide +kernel
theorem dL_cover_96 : decode cL_cover 96 = .ok (.iload 15, 2) := by decide +kernel
theorem dL_cover_98 : decode cL_cover 98 = .ok (.iaload, 1) := by decide +kernel
theorem dL_cover_99 : decode cL_cover 99 = .ok (.iconst 1, 1) := by decide +kernel
theorem dL_cover_100 : decode cL_cover 100 = .ok (.iand, 1) := by decide +kernel
theorem dL_cover_101 : decode cL_cover 101 = .ok (.aload 10, 2) := by decide +kernel
theorem dL_cover_103 : decode cL_cover 103 = .ok (.iload 15, 2) := by decide +kernel
theorem dL_cover_105 : decode cL_cover 105 = .ok (.iaload, 1) := by decide +kernel
theorem dL_cover_106 : decode cL_cover 106 = .ok (.iconst 1, 1) := by decide +kernel
theorem dL_cover_107 : decode cL_cover 107 = .ok (.ishr, 1) := by decide +kernel
theorem dL_cover_108 : decode cL_cover 108 = .ok (.iadd, 1) := by decide +kernel
theorem dL_cover_109 : decode cL_cover 109 = .ok (.aload 9, 2) := by decide +kernel
theorem dL_cover_111 : decode cL_cover 111 = .ok (.iload 15, 2) := by decide +kernel
theorem dL_cover_113 : decode cL_cover 113 = .ok (.iaload, 1) := by decide +kernel
theorem dL_cover_114 : decode cL_cover 114 = .ok (.if_icmp .ne 7, 3) := by decide +kernel
theorem dL_cover_117 : decode cL_cover 117 = .ok (.iconst 1, 1) := by decide +kernel
theorem dL_cover_118 : decode cL_cover 118 = .ok (.goto 4, 3) := by decide +kernel
theorem dL_cover_121 : decode cL_cover 121 = .ok (.iconst 0, 1) := by decide +kernel
theorem dL_cover_122 : decode cL_cover 122 = .ok (.istore 14, 2) := by decide +kernel
theorem dL_cover_124 : decode cL_cover 124 = .ok (.iinc 15 1, 3) := by decide +kernel
theorem dL_cover_127 : decode cL_cover 127 = .ok (.goto (-60), 3) := by decide +kernel
theorem dL_cover_130 : decode cL_cover 130 = .ok (.iconst 0, 1) := by decide +kernel
theorem dL_cover_131 : decode cL_cover 131 = .ok (.istore 15, 2) := by decide +kernel
theorem dL_cover_133 : decode cL_cover 133 = .ok (.iload 15, 2) := by decide +kernel
theorem dL_cover_135 : decode cL_cover 135 = .ok (.iconst 2, 1) := by decide +kernel
theorem dL_cover_136 : decode cL_cover 136 = .ok (.if_icmp .ge 145, 3) := by decide +kernel
theorem dL_cover_139 : decode cL_cover 139 = .ok (.iconst 0, 1) := by decide +kernel
theorem dL_cover_140 : decode cL_cover 140 = .ok (.istore 16, 2) := by decide +kernel
theorem dL_cover_142 : decode cL_cover 142 = .ok (.iconst 0, 1) := by decide +kernel
theorem dL_cover_143 : decode cL_cover 143 = .ok (.istore 17, 2) := by decide +kernel
theorem dL_cover_145 : decode cL_cover 145 = .ok (.iload 17, 2) := by decide +kernel
theorem dL_cover_147 : decode cL_cover 147 = .ok (.iconst 5, 1) := by decide +kernel
theorem dL_cover_148 : decode cL_cover 148 = .ok (.if_icmp .ge 84, 3) := by decide +kernel
theorem dL_cover_151 : decode cL_cover 151 = .ok (.aload 10, 2) := by decide +kernel
theorem dL_cover_153 : decode cL_cover 153 = .ok (.iload 17, 2) := by decide +kernel
theorem dL_cover_155 : decode cL_cover 155 = .ok (.iaload, 1) := by decide +kernel
theorem dL_cover_156 : decode cL_cover 156 = .ok (.iload 15, 2) := by decide +kernel
theorem dL_cover_158 : decode cL_cover 158 = .ok (.ishr, 1) := by decide +kernel
theorem dL_cover_159 : decode cL_cover 159 = .ok (.iconst 1, 1) := by decide +kernel
theorem dL_cover_160 : decode cL_cover 160 = .ok (.iand, 1) := by decide +kernel
theorem dL_cover_161 : decode cL_cover 161 = .ok (.iconst 1, 1) := by decide +kernel
theorem dL_cover_162 : decode cL_cover 162 = .ok (.if_icmp .ne 7, 3) := by decide +kernel
theorem dL_cover_165 : decode cL_cover 165 = .ok (.iconst 1, 1) := by decide +kernel
theorem dL_cover_166 : decode cL_cover 166 = .ok (.goto 4, 3) := by decide +kernel
theorem dL_cover_169 : decode cL_cover 169 = .ok (.iconst 0, 1) := by decide +kernel
theorem dL_cover_170 : decode cL_cover 170 = .ok (.istore 18, 2) := by decide +kernel
theorem dL_cover_172 : decode cL_cover 172 = .ok (.iload 16, 2) := by decide +kernel
theorem dL_cover_174 : decode cL_cover 174 = .ok (.iload 18, 2) := by decide +kernel
theorem dL_cover_176 : decode cL_cover 176 = .ok (.ifCond .eq 7, 3) := by decide +kernel
theorem dL_cover_179 : decode cL_cover 179 = .ok (.iconst 1, 1) := by decide +kernel
theorem dL_cover_180 : decode cL_cover 180 = .ok (.goto 4, 3) := by decide +kernel
theorem dL_cover_183 : decode cL_cover 183 = .ok (.iconst 0, 1) := by decide +kernel
theorem dL_cover_184 : decode cL_cover 184 = .ok (.iadd, 1) := by decide +kernel
theorem dL_cover_185 : decode cL_cover 185 = .ok (.istore 16, 2) := by decide +kernel
theorem dL_cover_187 : decode cL_cover 187 = .ok (.iload 14, 2) := by decide +kernel
theorem dL_cover_189 : decode cL_cover 189 = .ok (.ifCond .eq 34, 3) := by decide +kernel
theorem dL_cover_192 : decode cL_cover 192 = .ok (.iload 18, 2) := by decide +kernel
theorem dL_cover_194 : decode cL_cover 194 = .ok (.ifCond .eq 25, 3) := by decide +kernel
theorem dL_cover_197 : decode cL_cover 197 = .ok (.iload 15, 2) := by decide +kernel
theorem dL_cover_199 : decode cL_cover 199 = .ok (.iload_n 1, 1) := by decide +kernel
theorem dL_cover_200 : decode cL_cover 200 = .ok (.if_icmp .ge 23, 3) := by decide +kernel
theorem dL_cover_203 : decode cL_cover 203 = .ok (.aload 7, 2) := by decide +kernel
theorem dL_cover_205 : decode cL_cover 205 = .ok (.iconst 3, 1) := by decide +kernel
theorem dL_cover_206 : decode cL_cover 206 = .ok (.iload 15, 2) := by decide +kernel
theorem dL_cover_208 : decode cL_cover 208 = .ok (.imul, 1) := by decide +kernel
theorem dL_cover_209 : decode cL_cover 209 = .ok (.iaload, 1) := by decide +kernel
theorem dL_cover_210 : decode cL_cover 210 = .ok (.iload 17, 2) := by decide +kernel
theorem dL_cover_212 : decode cL_cover 212 = .ok (.ishr, 1) := by decide +kernel
theorem dL_cover_213 : decode cL_cover 213 = .ok (.iconst 1, 1) := by decide +kernel
theorem dL_cover_214 : decode cL_cover 214 = .ok (.iand, 1) := by decide +kernel
theorem dL_cover_215 : decode cL_cover 215 = .ok (.iconst 1, 1) := by decide +kernel
theorem dL_cover_216 : decode cL_cover 216 = .ok (.if_icmp .ne 7, 3) := by decide +kernel
theorem dL_cover_219 : decode cL_cover 219 = .ok (.iconst 1, 1) := by decide +kernel
theorem dL_cover_220 : decode cL_cover 220 = .ok (.goto 4, 3) := by decide +kernel
theorem dL_cover_223 : decode cL_cover 223 = .ok (.iconst 0, 1) := by decide +kernel
theorem dL_cover_224 : decode cL_cover 224 = .ok (.istore 14, 2) := by decide +kernel
theorem dL_cover_226 : decode cL_cover 226 = .ok (.iinc 17 1, 3) := by decide +kernel
theorem dL_cover_229 : decode cL_cover 229 = .ok (.goto (-84), 3) := by decide +kernel
theorem dL_cover_232 : decode cL_cover 232 = .ok (.iload 14, 2) := by decide +kernel
theorem dL_cover_234 : decode cL_cover 234 = .ok (.ifCond .eq 21, 3) := by decide +kernel
theorem dL_cover_237 : decode cL_cover 237 = .ok (.iload 16, 2) := by decide +kernel
theorem dL_cover_239 : decode cL_cover 239 = .ok (.aload 7, 2) := by decide +kernel
theorem dL_cover_241 : decode cL_cover 241 = .ok (.iconst 3, 1) := by decide +kernel
theorem dL_cover_242 : decode cL_cover 242 = .ok (.iload 15, 2) := by decide +kernel
theorem dL_cover_244 : decode cL_cover 244 = .ok (.imul, 1) := by decide +kernel
theorem dL_cover_245 : decode cL_cover 245 = .ok (.iconst 1, 1) := by decide +kernel
theorem dL_cover_246 : decode cL_cover 246 = .ok (.iadd, 1) := by decide +kernel
theorem dL_cover_247 : decode cL_cover 247 = .ok (.iaload, 1) := by decide +kernel
theorem dL_cover_248 : decode cL_cover 248 = .ok (.if_icmp .gt 7, 3) := by decide +kernel
theorem dL_cover_251 : decode cL_cover 251 = .ok (.iconst 1, 1) := by decide +kernel
theorem dL_cover_252 : decode cL_cover 252 = .ok (.goto 4, 3) := by decide +kernel
theorem dL_cover_255 : decode cL_cover 255 = .ok (.iconst 0, 1) := by decide +kernel
theorem dL_cover_256 : decode cL_cover 256 = .ok (.istore 14, 2) := by decide +kernel
theorem dL_cover_258 : decode cL_cover 258 = .ok (.iload 13, 2) := by decide +kernel
theorem dL_cover_260 : decode cL_cover 260 = .ok (.iload 16, 2) := by decide +kernel
theorem dL_cover_262 : decode cL_cover 262 = .ok (.aload 7, 2) := by decide +kernel
theorem dL_cover_264 : decode cL_cover 264 = .ok (.iconst 3, 1) := by decide +kernel
theorem dL_cover_265 : decode cL_cover 265 = .ok (.iload 15, 2) := by decide +kernel
theorem dL_cover_267 : decode cL_cover 267 = .ok (.imul, 1) := by decide +kernel
theorem dL_cover_268 : decode cL_cover 268 = .ok (.iconst 2, 1) := by decide +kernel
theorem dL_cover_269 : decode cL_cover 269 = .ok (.iadd, 1) := by decide +kernel
theorem dL_cover_270 : decode cL_cover 270 = .ok (.iaload, 1) := by decide +kernel
theorem dL_cover_271 : decode cL_cover 271 = .ok (.imul, 1) := by decide +kernel
theorem dL_cover_272 : decode cL_cover 272 = .ok (.iadd, 1) := by decide +kernel
theorem dL_cover_273 : decode cL_cover 273 = .ok (.istore 13, 2) := by decide +kernel
theorem dL_cover_275 : decode cL_cover 275 = .ok (.iinc 15 1, 3) := by decide +kernel
theorem dL_cover_278 : decode cL_cover 278 = .ok (.goto (-145), 3) := by decide +kernel
theorem dL_cover_281 : decode cL_cover 281 = .ok (.iload 14, 2) := by decide +kernel
theorem dL_cover_283 : decode cL_cover 283 = .ok (.ifCond .eq 44, 3) := by decide +kernel
theorem dL_cover_286 : decode cL_cover 286 = .ok (.iload 11, 2) := by decide +kernel
theorem dL_cover_288 : decode cL_cover 288 = .ok (.ifCond .lt 10, 3) := by decide +kernel
theorem dL_cover_291 : decode cL_cover 291 = .ok (.iload 13, 2) := by decide +kernel
theorem dL_cover_293 : decode cL_cover 293 = .ok (.iload 11, 2) := by decide +kernel
theorem dL_cover_295 : decode cL_cover 295 = .ok (.if_icmp .ge 32, 3) := by decide +kernel
theorem dL_cover_298 : decode cL_cover 298 = .ok (.iload 13, 2) := by decide +kernel
theorem dL_cover_300 : decode cL_cover 300 = .ok (.istore 11, 2) := by decide +kernel
theorem dL_cover_302 : decode cL_cover 302 = .ok (.iconst 0, 1) := by decide +kernel
theorem dL_cover_303 : decode cL_cover 303 = .ok (.istore 15, 2) := by decide +kernel
theorem dL_cover_305 : decode cL_cover 305 = .ok (.iload 15, 2) := by decide +kernel
theorem dL_cover_307 : decode cL_cover 307 = .ok (.iconst 5, 1) := by decide +kernel
theorem dL_cover_308 : decode cL_cover 308 = .ok (.if_icmp .ge 19, 3) := by decide +kernel
theorem dL_cover_311 : decode cL_cover 311 = .ok (.aload 8, 2) := by decide +kernel
theorem dL_cover_313 : decode cL_cover 313 = .ok (.iload 15, 2) := by decide +kernel
theorem dL_cover_315 : decode cL_cover 315 = .ok (.aload 10, 2) := by decide +kernel
theorem dL_cover_317 : decode cL_cover 317 = .ok (.iload 15, 2) := by decide +kernel
theorem dL_cover_319 : decode cL_cover 319 = .ok (.iaload, 1) := by decide +kernel
theorem dL_cover_320 : decode cL_cover 320 = .ok (.iastore, 1) := by decide +kernel
theorem dL_cover_321 : decode cL_cover 321 = .ok (.iinc 15 1, 3) := by decide +kernel
theorem dL_cover_324 : decode cL_cover 324 = .ok (.goto (-19), 3) := by decide +kernel
theorem dL_cover_327 : decode cL_cover 327 = .ok (.iinc 12 1, 3) := by decide +kernel
theorem dL_cover_330 : decode cL_cover 330 = .ok (.goto (-280), 3) := by decide +kernel
theorem dL_cover_333 : decode cL_cover 333 = .ok (.iload 11, 2) := by decide +kernel
theorem dL_cover_335 : decode cL_cover 335 = .ok (.ireturn, 1) := by decide +kernel
theorem dL_covered_0 : decode cL_covered 0 = .ok (.iconst 5, 1) := by decide +kernel
theorem dL_covered_1 : decode cL_covered 1 = .ok (.newarray .int, 2) := by decide +kernel
theorem dL_covered_3 : decode cL_covered 3 = .ok (.astore 8, 2) := by decide +kernel
theorem dL_covered_5 : decode cL_covered 5 = .ok (.iconst 5, 1) := by decide +kernel
theorem dL_covered_6 : decode cL_covered 6 = .ok (.newarray .int, 2) := by decide +kernel
theorem dL_covered_8 : decode cL_covered 8 = .ok (.astore 9, 2) := by decide +kernel
theorem dL_covered_10 : decode cL_covered 10 = .ok (.iconst 0, 1) := by decide +kernel
theorem dL_covered_11 : decode cL_covered 11 = .ok (.istore 10, 2) := by decide +kernel
theorem dL_covered_13 : decode cL_covered 13 = .ok (.iload 10, 2) := by decide +kernel
theorem dL_covered_15 : decode cL_covered 15 = .ok (.iconst 4, 1) := by decide +kernel
theorem dL_covered_16 : decode cL_covered 16 = .ok (.if_icmp .ge 149, 3) := by decide +kernel
theorem dL_covered_19 : decode cL_covered 19 = .ok (.iconst 0, 1) := by decide +kernel
theorem dL_covered_20 : decode cL_covered 20 = .ok (.istore 11, 2) := by decide +kernel
theorem dL_covered_22 : decode cL_covered 22 = .ok (.iload 11, 2) := by decide +kernel
theorem dL_covered_24 : decode cL_covered 24 = .ok (.iconst 5, 1) := by decide +kernel
theorem dL_covered_25 : decode cL_covered 25 = .ok (.if_icmp .ge 37, 3) := by decide +kernel
theorem dL_covered_28 : decode cL_covered 28 = .ok (.aload_n 0, 1) := by decide +kernel
theorem dL_covered_29 : decode cL_covered 29 = .ok (.iload 10, 2) := by decide +kernel
theorem dL_covered_31 : decode cL_covered 31 = .ok (.iload 11, 2) := by decide +kernel
theorem dL_covered_33 : decode cL_covered 33 = .ok (.invokevirtual 98, 3) := by decide +kernel
theorem dL_covered_36 : decode cL_covered 36 = .ok (.iload 10, 2) := by decide +kernel
theorem dL_covered_38 : decode cL_covered 38 = .ok (.iload 11, 2) := by decide +kernel
theorem dL_covered_40 : decode cL_covered 40 = .ok (.aload_n 2, 1) := by decide +kernel
theorem dL_covered_41 : decode cL_covered 41 = .ok (.aload_n 3, 1) := by decide +kernel
theorem dL_covered_42 : decode cL_covered 42 = .ok (.aload 4, 2) := by decide +kernel
theorem dL_covered_44 : decode cL_covered 44 = .ok (.aload 5, 2) := by decide +kernel
theorem dL_covered_46 : decode cL_covered 46 = .ok (.aload 6, 2) := by decide +kernel
theorem dL_covered_48 : decode cL_covered 48 = .ok (.invokestatic 94, 3) := by decide +kernel
theorem dL_covered_51 : decode cL_covered 51 = .ok (.if_icmp .eq 5, 3) := by decide +kernel
theorem dL_covered_54 : decode cL_covered 54 = .ok (.iconst 0, 1) := by decide +kernel
theorem dL_covered_55 : decode cL_covered 55 = .ok (.ireturn, 1) := by decide +kernel
theorem dL_covered_56 : decode cL_covered 56 = .ok (.iinc 11 1, 3) := by decide +kernel
theorem dL_covered_59 : decode cL_covered 59 = .ok (.goto (-37), 3) := by decide +kernel
theorem dL_covered_62 : decode cL_covered 62 = .ok (.iload 10, 2) := by decide +kernel
theorem dL_covered_64 : decode cL_covered 64 = .ok (.iload_n 1, 1) := by decide +kernel
theorem dL_covered_65 : decode cL_covered 65 = .ok (.aload_n 2, 1) := by decide +kernel
theorem dL_covered_66 : decode cL_covered 66 = .ok (.aload_n 3, 1) := by decide +kernel
theorem dL_covered_67 : decode cL_covered 67 = .ok (.aload 4, 2) := by decide +kernel
theorem dL_covered_69 : decode cL_covered 69 = .ok (.aload 5, 2) := by decide +kernel
theorem dL_covered_71 : decode cL_covered 71 = .ok (.aload 6, 2) := by decide +kernel
theorem dL_covered_73 : decode cL_covered 73 = .ok (.aload 7, 2) := by decide +kernel
theorem dL_covered_75 : decode cL_covered 75 = .ok (.aload 8, 2) := by decide +kernel
theorem dL_covered_77 : decode cL_covered 77 = .ok (.invokestatic 100, 3) := by decide +kernel
theorem dL_covered_80 : decode cL_covered 80 = .ok (.istore 11, 2) := by decide +kernel
theorem dL_covered_82 : decode cL_covered 82 = .ok (.aload_n 0, 1) := by decide +kernel
theorem dL_covered_83 : decode cL_covered 83 = .ok (.iload 10, 2) := by decide +kernel
theorem dL_covered_85 : decode cL_covered 85 = .ok (.invokevirtual 104, 3) := by decide +kernel
theorem dL_covered_88 : decode cL_covered 88 = .ok (.iload 11, 2) := by decide +kernel
theorem dL_covered_90 : decode cL_covered 90 = .ok (.ifCond .ge 8, 3) := by decide +kernel
theorem dL_covered_93 : decode cL_covered 93 = .ok (.bipush (-2), 2) := by decide +kernel
theorem dL_covered_95 : decode cL_covered 95 = .ok (.goto 5, 3) := by decide +kernel
theorem dL_covered_98 : decode cL_covered 98 = .ok (.iload 11, 2) := by decide +kernel
theorem dL_covered_100 : decode cL_covered 100 = .ok (.if_icmp .eq 5, 3) := by decide +kernel
theorem dL_covered_103 : decode cL_covered 103 = .ok (.iconst 0, 1) := by decide +kernel
theorem dL_covered_104 : decode cL_covered 104 = .ok (.ireturn, 1) := by decide +kernel
theorem dL_covered_105 : decode cL_covered 105 = .ok (.iconst 0, 1) := by decide +kernel
theorem dL_covered_106 : decode cL_covered 106 = .ok (.istore 12, 2) := by decide +kernel
theorem dL_covered_108 : decode cL_covered 108 = .ok (.iload 12, 2) := by decide +kernel
theorem dL_covered_110 : decode cL_covered 110 = .ok (.iconst 5, 1) := by decide +kernel
theorem dL_covered_111 : decode cL_covered 111 = .ok (.if_icmp .ge 48, 3) := by decide +kernel
theorem dL_covered_114 : decode cL_covered 114 = .ok (.aload 9, 2) := by decide +kernel
theorem dL_covered_116 : decode cL_covered 116 = .ok (.iload 12, 2) := by decide +kernel
theorem dL_covered_118 : decode cL_covered 118 = .ok (.iload 11, 2) := by decide +kernel
theorem dL_covered_120 : decode cL_covered 120 = .ok (.ifCond .ge 11, 3) := by decide +kernel
theorem dL_covered_123 : decode cL_covered 123 = .ok (.aload 9, 2) := by decide +kernel
theorem dL_covered_125 : decode cL_covered 125 = .ok (.iload 12, 2) := by decide +kernel
theorem dL_covered_127 : decode cL_covered 127 = .ok (.iaload, 1) := by decide +kernel
theorem dL_covered_128 : decode cL_covered 128 = .ok (.goto 8, 3) := by decide +kernel
theorem dL_covered_131 : decode cL_covered 131 = .ok (.aload 8, 2) := by decide +kernel
theorem dL_covered_133 : decode cL_covered 133 = .ok (.iload 12, 2) := by decide +kernel
theorem dL_covered_135 : decode cL_covered 135 = .ok (.iaload, 1) := by decide +kernel
theorem dL_covered_136 : decode cL_covered 136 = .ok (.iastore, 1) := by decide +kernel
theorem dL_covered_137 : decode cL_covered 137 = .ok (.aload_n 0, 1) := by decide +kernel
theorem dL_covered_138 : decode cL_covered 138 = .ok (.iload 12, 2) := by decide +kernel
theorem dL_covered_140 : decode cL_covered 140 = .ok (.invokevirtual 106, 3) := by decide +kernel
theorem dL_covered_143 : decode cL_covered 143 = .ok (.aload 9, 2) := by decide +kernel
theorem dL_covered_145 : decode cL_covered 145 = .ok (.iload 12, 2) := by decide +kernel
theorem dL_covered_147 : decode cL_covered 147 = .ok (.iaload, 1) := by decide +kernel
theorem dL_covered_148 : decode cL_covered 148 = .ok (.if_icmp .eq 5, 3) := by decide +kernel
theorem dL_covered_151 : decode cL_covered 151 = .ok (.iconst 0, 1) := by decide +kernel
theorem dL_covered_152 : decode cL_covered 152 = .ok (.ireturn, 1) := by decide +kernel
theorem dL_covered_153 : decode cL_covered 153 = .ok (.iinc 12 1, 3) := by decide +kernel
theorem dL_covered_156 : decode cL_covered 156 = .ok (.goto (-48), 3) := by decide +kernel
theorem dL_covered_159 : decode cL_covered 159 = .ok (.iinc 10 1, 3) := by decide +kernel
theorem dL_covered_162 : decode cL_covered 162 = .ok (.goto (-149), 3) := by decide +kernel
theorem dL_covered_165 : decode cL_covered 165 = .ok (.iconst 0, 1) := by decide +kernel
theorem dL_covered_166 : decode cL_covered 166 = .ok (.istore 10, 2) := by decide +kernel
theorem dL_covered_168 : decode cL_covered 168 = .ok (.iload 10, 2) := by decide +kernel
theorem dL_covered_170 : decode cL_covered 170 = .ok (.aload_n 2, 1) := by decide +kernel
theorem dL_covered_171 : decode cL_covered 171 = .ok (.bipush 8, 2) := by decide +kernel
theorem dL_covered_173 : decode cL_covered 173 = .ok (.iaload, 1) := by decide +kernel
theorem dL_covered_174 : decode cL_covered 174 = .ok (.if_icmp .ge 128, 3) := by decide +kernel
theorem dL_covered_177 : decode cL_covered 177 = .ok (.bipush (-9), 2) := by decide +kernel
theorem dL_covered_179 : decode cL_covered 179 = .ok (.istore 11, 2) := by decide +kernel
theorem dL_covered_181 : decode cL_covered 181 = .ok (.iconst (-1), 1) := by decide +kernel
theorem dL_covered_182 : decode cL_covered 182 = .ok (.istore 12, 2) := by decide +kernel
theorem dL_covered_184 : decode cL_covered 184 = .ok (.iconst 0, 1) := by decide +kernel
theorem dL_covered_185 : decode cL_covered 185 = .ok (.istore 13, 2) := by decide +kernel
theorem dL_covered_187 : decode cL_covered 187 = .ok (.iload 13, 2) := by decide +kernel
theorem dL_covered_189 : decode cL_covered 189 = .ok (.iconst 4, 1) := by decide +kernel
theorem dL_covered_190 : decode cL_covered 190 = .ok (.if_icmp .ge 93, 3) := by decide +kernel
theorem dL_covered_193 : decode cL_covered 193 = .ok (.aload 6, 2) := by decide +kernel
theorem dL_covered_195 : decode cL_covered 195 = .ok (.iconst 4, 1) := by decide +kernel
theorem dL_covered_196 : decode cL_covered 196 = .ok (.iload 10, 2) := by decide +kernel
theorem dL_covered_198 : decode cL_covered 198 = .ok (.imul, 1) := by decide +kernel
theorem dL_covered_199 : decode cL_covered 199 = .ok (.iload 13, 2) := by decide +kernel
theorem dL_covered_201 : decode cL_covered 201 = .ok (.iadd, 1) := by decide +kernel
theorem dL_covered_202 : decode cL_covered 202 = .ok (.iaload, 1) := by decide +kernel
theorem dL_covered_203 : decode cL_covered 203 = .ok (.iconst 1, 1) := by decide +kernel
theorem dL_covered_204 : decode cL_covered 204 = .ok (.if_icmp .ne 6, 3) := by decide +kernel
theorem dL_covered_207 : decode cL_covered 207 = .ok (.goto 70, 3) := by decide +kernel
theorem dL_covered_210 : decode cL_covered 210 = .ok (.aload 6, 2) := by decide +kernel
theorem dL_covered_212 : decode cL_covered 212 = .ok (.iconst 4, 1) := by decide +kernel
theorem dL_covered_213 : decode cL_covered 213 = .ok (.iload 10, 2) := by decide +kernel
theorem dL_covered_215 : decode cL_covered 215 = .ok (.imul, 1) := by decide +kernel
theorem dL_covered_216 : decode cL_covered 216 = .ok (.iload 13, 2) := by decide +kernel
theorem dL_covered_218 : decode cL_covered 218 = .ok (.iadd, 1) := by decide +kernel
theorem dL_covered_219 : decode cL_covered 219 = .ok (.iconst 1, 1) := by decide +kernel
theorem dL_covered_220 : decode cL_covered 220 = .ok (.iastore, 1) := by decide +kernel
theorem dL_covered_221 : decode cL_covered 221 = .ok (.iload 13, 2) := by decide +kernel
theorem dL_covered_223 : decode cL_covered 223 = .ok (.iload_n 1, 1) := by decide +kernel
theorem dL_covered_224 : decode cL_covered 224 = .ok (.aload_n 2, 1) := by decide +kernel
theorem dL_covered_225 : decode cL_covered 225 = .ok (.aload_n 3, 1) := by decide +kernel
theorem dL_covered_226 : decode cL_covered 226 = .ok (.aload 4, 2) := by decide +kernel
theorem dL_covered_228 : decode cL_covered 228 = .ok (.aload 5, 2) := by decide +kernel
theorem dL_covered_230 : decode cL_covered 230 = .ok (.aload 6, 2) := by decide +kernel
theorem dL_covered_232 : decode cL_covered 232 = .ok (.aload 7, 2) := by decide +kernel
theorem dL_covered_234 : decode cL_covered 234 = .ok (.aload 8, 2) := by decide +kernel
theorem dL_covered_236 : decode cL_covered 236 = .ok (.invokestatic 100, 3) := by decide +kernel
theorem dL_covered_239 : decode cL_covered 239 = .ok (.istore 14, 2) := by decide +kernel
theorem dL_covered_241 : decode cL_covered 241 = .ok (.aload 6, 2) := by decide +kernel
theorem dL_covered_243 : decode cL_covered 243 = .ok (.iconst 4, 1) := by decide +kernel
theorem dL_covered_244 : decode cL_covered 244 = .ok (.iload 10, 2) := by decide +kernel
theorem dL_covered_246 : decode cL_covered 246 = .ok (.imul, 1) := by decide +kernel
theorem dL_covered_247 : decode cL_covered 247 = .ok (.iload 13, 2) := by decide +kernel
theorem dL_covered_249 : decode cL_covered 249 = .ok (.iadd, 1) := by decide +kernel
theorem dL_covered_250 : decode cL_covered 250 = .ok (.iconst 0, 1) := by decide +kernel
theorem dL_covered_251 : decode cL_covered 251 = .ok (.iastore, 1) := by decide +kernel
theorem dL_covered_252 : decode cL_covered 252 = .ok (.iload 14, 2) := by decide +kernel
theorem dL_covered_254 : decode cL_covered 254 = .ok (.ifCond .lt 23, 3) := by decide +kernel
theorem dL_covered_257 : decode cL_covered 257 = .ok (.iload 12, 2) := by decide +kernel
theorem dL_covered_259 : decode cL_covered 259 = .ok (.ifCond .lt 10, 3) := by decide +kernel
theorem dL_covered_262 : decode cL_covered 262 = .ok (.iload 14, 2) := by decide +kernel
theorem dL_covered_264 : decode cL_covered 264 = .ok (.iload 12, 2) := by decide +kernel
theorem dL_covered_266 : decode cL_covered 266 = .ok (.if_icmp .ge 11, 3) := by decide +kernel
theorem dL_covered_269 : decode cL_covered 269 = .ok (.iload 14, 2) := by decide +kernel
theorem dL_covered_271 : decode cL_covered 271 = .ok (.istore 12, 2) := by decide +kernel
theorem dL_covered_273 : decode cL_covered 273 = .ok (.iload 13, 2) := by decide +kernel
theorem dL_covered_275 : decode cL_covered 275 = .ok (.istore 11, 2) := by decide +kernel
theorem dL_covered_277 : decode cL_covered 277 = .ok (.iinc 13 1, 3) := by decide +kernel
theorem dL_covered_280 : decode cL_covered 280 = .ok (.goto (-93), 3) := by decide +kernel
theorem dL_covered_283 : decode cL_covered 283 = .ok (.aload_n 0, 1) := by decide +kernel
theorem dL_covered_284 : decode cL_covered 284 = .ok (.iload 10, 2) := by decide +kernel
theorem dL_covered_286 : decode cL_covered 286 = .ok (.invokevirtual 109, 3) := by decide +kernel
theorem dL_covered_289 : decode cL_covered 289 = .ok (.iload 11, 2) := by decide +kernel
theorem dL_covered_291 : decode cL_covered 291 = .ok (.if_icmp .eq 5, 3) := by decide +kernel
theorem dL_covered_294 : decode cL_covered 294 = .ok (.iconst 0, 1) := by decide +kernel
theorem dL_covered_295 : decode cL_covered 295 = .ok (.ireturn, 1) := by decide +kernel
theorem dL_covered_296 : decode cL_covered 296 = .ok (.iinc 10 1, 3) := by decide +kernel
theorem dL_covered_299 : decode cL_covered 299 = .ok (.goto (-131), 3) := by decide +kernel
theorem dL_covered_302 : decode cL_covered 302 = .ok (.iconst 1, 1) := by decide +kernel
theorem dL_covered_303 : decode cL_covered 303 = .ok (.ireturn, 1) := by decide +kernel
theorem dL_span_0 : decode cL_span 0 = .ok (.iload_n 0, 1) := by decide +kernel
theorem dL_span_1 : decode cL_span 1 = .ok (.bipush 9, 2) := by decide +kernel
theorem dL_span_3 : decode cL_span 3 = .ok (.invokestatic 112, 3) := by decide +kernel
theorem dL_span_6 : decode cL_span 6 = .ok (.istore 4, 2) := by decide +kernel
theorem dL_span_8 : decode cL_span 8 = .ok (.aload_n 3, 1) := by decide +kernel
theorem dL_span_9 : decode cL_span 9 = .ok (.iload_n 1, 1) := by decide +kernel
theorem dL_span_10 : decode cL_span 10 = .ok (.iconst 2, 1) := by decide +kernel
theorem dL_span_11 : decode cL_span 11 = .ok (.iload_n 2, 1) := by decide +kernel
theorem dL_span_12 : decode cL_span 12 = .ok (.imul, 1) := by decide +kernel
theorem dL_span_13 : decode cL_span 13 = .ok (.iadd, 1) := by decide +kernel
theorem dL_span_14 : decode cL_span 14 = .ok (.iload 4, 2) := by decide +kernel
theorem dL_span_16 : decode cL_span 16 = .ok (.iastore, 1) := by decide +kernel
theorem dL_span_17 : decode cL_span 17 = .ok (.aload_n 3, 1) := by decide +kernel
theorem dL_span_18 : decode cL_span 18 = .ok (.iload_n 1, 1) := by decide +kernel
theorem dL_span_19 : decode cL_span 19 = .ok (.iconst 2, 1) := by decide +kernel
theorem dL_span_20 : decode cL_span 20 = .ok (.iload_n 2, 1) := by decide +kernel
theorem dL_span_21 : decode cL_span 21 = .ok (.imul, 1) := by decide +kernel
theorem dL_span_22 : decode cL_span 22 = .ok (.iadd, 1) := by decide +kernel
theorem dL_span_23 : decode cL_span 23 = .ok (.iconst 1, 1) := by decide +kernel
theorem dL_span_24 : decode cL_span 24 = .ok (.iadd, 1) := by decide +kernel
theorem dL_span_25 : decode cL_span 25 = .ok (.iload 4, 2) := by decide +kernel
theorem dL_span_27 : decode cL_span 27 = .ok (.iload_n 0, 1) := by decide +kernel
theorem dL_span_28 : decode cL_span 28 = .ok (.iconst 4, 1) := by decide +kernel
theorem dL_span_29 : decode cL_span 29 = .ok (.ishr, 1) := by decide +kernel
theorem dL_span_30 : decode cL_span 30 = .ok (.bipush 11, 2) := by decide +kernel
theorem dL_span_32 : decode cL_span 32 = .ok (.iload 4, 2) := by decide +kernel
theorem dL_span_34 : decode cL_span 34 = .ok (.isub, 1) := by decide +kernel
theorem dL_span_35 : decode cL_span 35 = .ok (.invokestatic 112, 3) := by decide +kernel
theorem dL_span_38 : decode cL_span 38 = .ok (.iadd, 1) := by decide +kernel
theorem dL_span_39 : decode cL_span 39 = .ok (.iastore, 1) := by decide +kernel
theorem dL_span_40 : decode cL_span 40 = .ok (.iconst 1, 1) := by decide +kernel
theorem dL_span_41 : decode cL_span 41 = .ok (.ireturn, 1) := by decide +kernel
theorem dL_law_0 : decode cL_law 0 = .ok (.new 48, 3) := by decide +kernel
theorem dL_law_3 : decode cL_law 3 = .ok (.dup, 1) := by decide +kernel
theorem dL_law_4 : decode cL_law 4 = .ok (.invokespecial 115, 3) := by decide +kernel
theorem dL_law_7 : decode cL_law 7 = .ok (.astore_n 1, 1) := by decide +kernel
theorem dL_law_8 : decode cL_law 8 = .ok (.bipush 16, 2) := by decide +kernel
theorem dL_law_10 : decode cL_law 10 = .ok (.newarray .int, 2) := by decide +kernel
theorem dL_law_12 : decode cL_law 12 = .ok (.astore_n 2, 1) := by decide +kernel
theorem dL_law_13 : decode cL_law 13 = .ok (.bipush 20, 2) := by decide +kernel
theorem dL_law_15 : decode cL_law 15 = .ok (.newarray .int, 2) := by decide +kernel
theorem dL_law_17 : decode cL_law 17 = .ok (.astore_n 3, 1) := by decide +kernel
theorem dL_law_18 : decode cL_law 18 = .ok (.bipush 50, 2) := by decide +kernel
theorem dL_law_20 : decode cL_law 20 = .ok (.newarray .int, 2) := by decide +kernel
theorem dL_law_22 : decode cL_law 22 = .ok (.astore 4, 2) := by decide +kernel
theorem dL_law_24 : decode cL_law 24 = .ok (.bipush 30, 2) := by decide +kernel
theorem dL_law_26 : decode cL_law 26 = .ok (.newarray .int, 2) := by decide +kernel
theorem dL_law_28 : decode cL_law 28 = .ok (.astore 5, 2) := by decide +kernel
theorem dL_law_30 : decode cL_law 30 = .ok (.bipush 16, 2) := by decide +kernel
theorem dL_law_32 : decode cL_law 32 = .ok (.newarray .int, 2) := by decide +kernel
theorem dL_law_34 : decode cL_law 34 = .ok (.astore 6, 2) := by decide +kernel
theorem dL_law_36 : decode cL_law 36 = .ok (.bipush 6, 2) := by decide +kernel
theorem dL_law_38 : decode cL_law 38 = .ok (.newarray .int, 2) := by decide +kernel
theorem dL_law_40 : decode cL_law 40 = .ok (.astore 7, 2) := by decide +kernel
theorem dL_law_42 : decode cL_law 42 = .ok (.aload_n 2, 1) := by decide +kernel
theorem dL_law_43 : decode cL_law 43 = .ok (.bipush 7, 2) := by decide +kernel
theorem dL_law_45 : decode cL_law 45 = .ok (.iconst 1, 1) := by decide +kernel
theorem dL_law_46 : decode cL_law 46 = .ok (.aload_n 0, 1) := by decide +kernel
theorem dL_law_47 : decode cL_law 47 = .ok (.iconst 0, 1) := by decide +kernel
theorem dL_law_48 : decode cL_law 48 = .ok (.invokestatic 116, 3) := by decide +kernel
theorem dL_law_51 : decode cL_law 51 = .ok (.iconst 5, 1) := by decide +kernel
theorem dL_law_52 : decode cL_law 52 = .ok (.invokestatic 112, 3) := by decide +kernel
theorem dL_law_55 : decode cL_law 55 = .ok (.iadd, 1) := by decide +kernel
theorem dL_law_56 : decode cL_law 56 = .ok (.iastore, 1) := by decide +kernel
theorem dL_law_57 : decode cL_law 57 = .ok (.aload_n 2, 1) := by decide +kernel
theorem dL_law_58 : decode cL_law 58 = .ok (.bipush 8, 2) := by decide +kernel
theorem dL_law_60 : decode cL_law 60 = .ok (.aload_n 0, 1) := by decide +kernel
theorem dL_law_61 : decode cL_law 61 = .ok (.iconst 1, 1) := by decide +kernel
theorem dL_law_62 : decode cL_law 62 = .ok (.invokestatic 116, 3) := by decide +kernel
theorem dL_law_65 : decode cL_law 65 = .ok (.iconst 4, 1) := by decide +kernel
theorem dL_law_66 : decode cL_law 66 = .ok (.invokestatic 112, 3) := by decide +kernel
theorem dL_law_69 : decode cL_law 69 = .ok (.iastore, 1) := by decide +kernel
theorem dL_law_70 : decode cL_law 70 = .ok (.aload_n 2, 1) := by decide +kernel
theorem dL_law_71 : decode cL_law 71 = .ok (.bipush 6, 2) := by decide +kernel
theorem dL_law_73 : decode cL_law 73 = .ok (.iconst 1, 1) := by decide +kernel
theorem dL_law_74 : decode cL_law 74 = .ok (.aload_n 0, 1) := by decide +kernel
theorem dL_law_75 : decode cL_law 75 = .ok (.iconst 2, 1) := by decide +kernel
theorem dL_law_76 : decode cL_law 76 = .ok (.invokestatic 116, 3) := by decide +kernel
theorem dL_law_79 : decode cL_law 79 = .ok (.bipush 6, 2) := by decide +kernel
theorem dL_law_81 : decode cL_law 81 = .ok (.invokestatic 112, 3) := by decide +kernel
theorem dL_law_84 : decode cL_law 84 = .ok (.iadd, 1) := by decide +kernel
theorem dL_law_85 : decode cL_law 85 = .ok (.iastore, 1) := by decide +kernel
theorem dL_law_86 : decode cL_law 86 = .ok (.aload_n 1, 1) := by decide +kernel
theorem dL_law_87 : decode cL_law 87 = .ok (.aload_n 2, 1) := by decide +kernel
theorem dL_law_88 : decode cL_law 88 = .ok (.bipush 6, 2) := by decide +kernel
theorem dL_law_90 : decode cL_law 90 = .ok (.iaload, 1) := by decide +kernel
theorem dL_law_91 : decode cL_law 91 = .ok (.invokevirtual 120, 3) := by decide +kernel
theorem dL_law_94 : decode cL_law 94 = .ok (.bipush 20, 2) := by decide +kernel
theorem dL_law_96 : decode cL_law 96 = .ok (.if_icmp .eq 5, 3) := by decide +kernel
theorem dL_law_99 : decode cL_law 99 = .ok (.iconst 0, 1) := by decide +kernel
theorem dL_law_100 : decode cL_law 100 = .ok (.ireturn, 1) := by decide +kernel
theorem dL_law_101 : decode cL_law 101 = .ok (.iconst 0, 1) := by decide +kernel
theorem dL_law_102 : decode cL_law 102 = .ok (.istore 8, 2) := by decide +kernel
theorem dL_law_104 : decode cL_law 104 = .ok (.iload 8, 2) := by decide +kernel
theorem dL_law_106 : decode cL_law 106 = .ok (.iconst 3, 1) := by decide +kernel
theorem dL_law_107 : decode cL_law 107 = .ok (.if_icmp .ge 131, 3) := by decide +kernel
theorem dL_law_110 : decode cL_law 110 = .ok (.aload_n 2, 1) := by decide +kernel
theorem dL_law_111 : decode cL_law 111 = .ok (.iload 8, 2) := by decide +kernel
theorem dL_law_113 : decode cL_law 113 = .ok (.iconst 1, 1) := by decide +kernel
theorem dL_law_114 : decode cL_law 114 = .ok (.aload_n 0, 1) := by decide +kernel
theorem dL_law_115 : decode cL_law 115 = .ok (.iconst 2, 1) := by decide +kernel
theorem dL_law_116 : decode cL_law 116 = .ok (.invokestatic 116, 3) := by decide +kernel
theorem dL_law_119 : decode cL_law 119 = .ok (.iconst 3, 1) := by decide +kernel
theorem dL_law_120 : decode cL_law 120 = .ok (.iconst 3, 1) := by decide +kernel
theorem dL_law_121 : decode cL_law 121 = .ok (.iload 8, 2) := by decide +kernel
theorem dL_law_123 : decode cL_law 123 = .ok (.imul, 1) := by decide +kernel
theorem dL_law_124 : decode cL_law 124 = .ok (.iadd, 1) := by decide +kernel
theorem dL_law_125 : decode cL_law 125 = .ok (.ishr, 1) := by decide +kernel
theorem dL_law_126 : decode cL_law 126 = .ok (.iconst 5, 1) := by decide +kernel
theorem dL_law_127 : decode cL_law 127 = .ok (.invokestatic 112, 3) := by decide +kernel
theorem dL_law_130 : decode cL_law 130 = .ok (.iadd, 1) := by decide +kernel
theorem dL_law_131 : decode cL_law 131 = .ok (.iastore, 1) := by decide +kernel
theorem dL_law_132 : decode cL_law 132 = .ok (.aload_n 2, 1) := by decide +kernel
theorem dL_law_133 : decode cL_law 133 = .ok (.iconst 3, 1) := by decide +kernel
theorem dL_law_134 : decode cL_law 134 = .ok (.iload 8, 2) := by decide +kernel
theorem dL_law_136 : decode cL_law 136 = .ok (.iadd, 1) := by decide +kernel
theorem dL_law_137 : decode cL_law 137 = .ok (.aload_n 0, 1) := by decide +kernel
theorem dL_law_138 : decode cL_law 138 = .ok (.iconst 3, 1) := by decide +kernel
theorem dL_law_139 : decode cL_law 139 = .ok (.invokestatic 116, 3) := by decide +kernel
theorem dL_law_142 : decode cL_law 142 = .ok (.iconst 5, 1) := by decide +kernel
theorem dL_law_143 : decode cL_law 143 = .ok (.iload 8, 2) := by decide +kernel
theorem dL_law_145 : decode cL_law 145 = .ok (.imul, 1) := by decide +kernel
theorem dL_law_146 : decode cL_law 146 = .ok (.ishr, 1) := by decide +kernel
theorem dL_law_147 : decode cL_law 147 = .ok (.sipush 500, 3) := by decide +kernel
theorem dL_law_150 : decode cL_law 150 = .ok (.invokestatic 112, 3) := by decide +kernel
theorem dL_law_153 : decode cL_law 153 = .ok (.iastore, 1) := by decide +kernel
theorem dL_law_154 : decode cL_law 154 = .ok (.aload_n 1, 1) := by decide +kernel
theorem dL_law_155 : decode cL_law 155 = .ok (.iload 8, 2) := by decide +kernel
theorem dL_law_157 : decode cL_law 157 = .ok (.aload_n 2, 1) := by decide +kernel
theorem dL_law_158 : decode cL_law 158 = .ok (.iload 8, 2) := by decide +kernel
theorem dL_law_160 : decode cL_law 160 = .ok (.iaload, 1) := by decide +kernel
theorem dL_law_161 : decode cL_law 161 = .ok (.invokevirtual 123, 3) := by decide +kernel
theorem dL_law_164 : decode cL_law 164 = .ok (.iload 8, 2) := by decide +kernel
theorem dL_law_166 : decode cL_law 166 = .ok (.ifCond .ne 7, 3) := by decide +kernel
theorem dL_law_169 : decode cL_law 169 = .ok (.iconst 4, 1) := by decide +kernel
theorem dL_law_170 : decode cL_law 170 = .ok (.goto 16, 3) := by decide +kernel
theorem dL_law_173 : decode cL_law 173 = .ok (.iload 8, 2) := by decide +kernel
theorem dL_law_175 : decode cL_law 175 = .ok (.iconst 1, 1) := by decide +kernel
theorem dL_law_176 : decode cL_law 176 = .ok (.if_icmp .ne 8, 3) := by decide +kernel
theorem dL_law_179 : decode cL_law 179 = .ok (.bipush 6, 2) := by decide +kernel
theorem dL_law_181 : decode cL_law 181 = .ok (.goto 5, 3) := by decide +kernel
theorem dL_law_184 : decode cL_law 184 = .ok (.bipush 10, 2) := by decide +kernel
theorem dL_law_186 : decode cL_law 186 = .ok (.if_icmp .ne 44, 3) := by decide +kernel
theorem dL_law_189 : decode cL_law 189 = .ok (.aload_n 1, 1) := by decide +kernel
theorem dL_law_190 : decode cL_law 190 = .ok (.iload 8, 2) := by decide +kernel
theorem dL_law_192 : decode cL_law 192 = .ok (.aload_n 2, 1) := by decide +kernel
theorem dL_law_193 : decode cL_law 193 = .ok (.iconst 3, 1) := by decide +kernel
theorem dL_law_194 : decode cL_law 194 = .ok (.iload 8, 2) := by decide +kernel
theorem dL_law_196 : decode cL_law 196 = .ok (.iadd, 1) := by decide +kernel
theorem dL_law_197 : decode cL_law 197 = .ok (.iaload, 1) := by decide +kernel
theorem dL_law_198 : decode cL_law 198 = .ok (.invokevirtual 126, 3) := by decide +kernel
theorem dL_law_201 : decode cL_law 201 = .ok (.iload 8, 2) := by decide +kernel
theorem dL_law_203 : decode cL_law 203 = .ok (.ifCond .ne 9, 3) := by decide +kernel
theorem dL_law_206 : decode cL_law 206 = .ok (.sipush 400, 3) := by decide +kernel
theorem dL_law_209 : decode cL_law 209 = .ok (.goto 18, 3) := by decide +kernel
theorem dL_law_212 : decode cL_law 212 = .ok (.iload 8, 2) := by decide +kernel
theorem dL_law_214 : decode cL_law 214 = .ok (.iconst 1, 1) := by decide +kernel
theorem dL_law_215 : decode cL_law 215 = .ok (.if_icmp .ne 9, 3) := by decide +kernel
theorem dL_law_218 : decode cL_law 218 = .ok (.sipush 300, 3) := by decide +kernel
theorem dL_law_221 : decode cL_law 221 = .ok (.goto 6, 3) := by decide +kernel
theorem dL_law_224 : decode cL_law 224 = .ok (.sipush 250, 3) := by decide +kernel
theorem dL_law_227 : decode cL_law 227 = .ok (.if_icmp .eq 5, 3) := by decide +kernel
theorem dL_law_230 : decode cL_law 230 = .ok (.iconst 0, 1) := by decide +kernel
theorem dL_law_231 : decode cL_law 231 = .ok (.ireturn, 1) := by decide +kernel
theorem dL_law_232 : decode cL_law 232 = .ok (.iinc 8 1, 3) := by decide +kernel
theorem dL_law_235 : decode cL_law 235 = .ok (.goto (-131), 3) := by decide +kernel
theorem dL_law_238 : decode cL_law 238 = .ok (.iconst 0, 1) := by decide +kernel
theorem dL_law_239 : decode cL_law 239 = .ok (.istore 8, 2) := by decide +kernel
theorem dL_law_241 : decode cL_law 241 = .ok (.iload 8, 2) := by decide +kernel
theorem dL_law_243 : decode cL_law 243 = .ok (.aload_n 2, 1) := by decide +kernel
theorem dL_law_244 : decode cL_law 244 = .ok (.bipush 8, 2) := by decide +kernel
theorem dL_law_246 : decode cL_law 246 = .ok (.iaload, 1) := by decide +kernel
theorem dL_law_247 : decode cL_law 247 = .ok (.if_icmp .ge 282, 3) := by decide +kernel
theorem dL_law_250 : decode cL_law 250 = .ok (.aload_n 0, 1) := by decide +kernel
theorem dL_law_251 : decode cL_law 251 = .ok (.iconst 4, 1) := by decide +kernel
theorem dL_law_252 : decode cL_law 252 = .ok (.iload 8, 2) := by decide +kernel
theorem dL_law_254 : decode cL_law 254 = .ok (.iadd, 1) := by decide +kernel
theorem dL_law_255 : decode cL_law 255 = .ok (.invokestatic 116, 3) := by decide +kernel
theorem dL_law_258 : decode cL_law 258 = .ok (.istore 9, 2) := by decide +kernel
theorem dL_law_260 : decode cL_law 260 = .ok (.aload_n 1, 1) := by decide +kernel
theorem dL_law_261 : decode cL_law 261 = .ok (.invokevirtual 129, 3) := by decide +kernel
theorem dL_law_264 : decode cL_law 264 = .ok (.iload 8, 2) := by decide +kernel
theorem dL_law_266 : decode cL_law 266 = .ok (.if_icmp .eq 5, 3) := by decide +kernel
theorem dL_law_269 : decode cL_law 269 = .ok (.iconst 0, 1) := by decide +kernel
theorem dL_law_270 : decode cL_law 270 = .ok (.ireturn, 1) := by decide +kernel
theorem dL_law_271 : decode cL_law 271 = .ok (.iconst 0, 1) := by decide +kernel
theorem dL_law_272 : decode cL_law 272 = .ok (.istore 10, 2) := by decide +kernel
theorem dL_law_274 : decode cL_law 274 = .ok (.iconst 0, 1) := by decide +kernel
theorem dL_law_275 : decode cL_law 275 = .ok (.istore 11, 2) := by decide +kernel
theorem dL_law_277 : decode cL_law 277 = .ok (.iload 11, 2) := by decide +kernel
theorem dL_law_279 : decode cL_law 279 = .ok (.iconst 5, 1) := by decide +kernel
theorem dL_law_280 : decode cL_law 280 = .ok (.if_icmp .ge 147, 3) := by decide +kernel
theorem dL_law_283 : decode cL_law 283 = .ok (.aload_n 0, 1) := by decide +kernel
theorem dL_law_284 : decode cL_law 284 = .ok (.bipush 8, 2) := by decide +kernel
theorem dL_law_286 : decode cL_law 286 = .ok (.iconst 5, 1) := by decide +kernel
theorem dL_law_287 : decode cL_law 287 = .ok (.iload 8, 2) := by decide +kernel
theorem dL_law_289 : decode cL_law 289 = .ok (.imul, 1) := by decide +kernel
theorem dL_law_290 : decode cL_law 290 = .ok (.iadd, 1) := by decide +kernel
theorem dL_law_291 : decode cL_law 291 = .ok (.iload 11, 2) := by decide +kernel
theorem dL_law_293 : decode cL_law 293 = .ok (.iadd, 1) := by decide +kernel
theorem dL_law_294 : decode cL_law 294 = .ok (.invokestatic 116, 3) := by decide +kernel
theorem dL_law_297 : decode cL_law 297 = .ok (.istore 12, 2) := by decide +kernel
theorem dL_law_299 : decode cL_law 299 = .ok (.aload 5, 2) := by decide +kernel
theorem dL_law_301 : decode cL_law 301 = .ok (.bipush 10, 2) := by decide +kernel
theorem dL_law_303 : decode cL_law 303 = .ok (.iload 8, 2) := by decide +kernel
theorem dL_law_305 : decode cL_law 305 = .ok (.imul, 1) := by decide +kernel
theorem dL_law_306 : decode cL_law 306 = .ok (.iconst 2, 1) := by decide +kernel
theorem dL_law_307 : decode cL_law 307 = .ok (.iload 11, 2) := by decide +kernel
theorem dL_law_309 : decode cL_law 309 = .ok (.imul, 1) := by decide +kernel
theorem dL_law_310 : decode cL_law 310 = .ok (.iadd, 1) := by decide +kernel
theorem dL_law_311 : decode cL_law 311 = .ok (.iload 12, 2) := by decide +kernel
theorem dL_law_313 : decode cL_law 313 = .ok (.iconst 3, 1) := by decide +kernel
theorem dL_law_314 : decode cL_law 314 = .ok (.invokestatic 112, 3) := by decide +kernel
theorem dL_law_317 : decode cL_law 317 = .ok (.iastore, 1) := by decide +kernel
theorem dL_law_318 : decode cL_law 318 = .ok (.aload 5, 2) := by decide +kernel
theorem dL_law_320 : decode cL_law 320 = .ok (.bipush 10, 2) := by decide +kernel
theorem dL_law_322 : decode cL_law 322 = .ok (.iload 8, 2) := by decide +kernel
theorem dL_law_324 : decode cL_law 324 = .ok (.imul, 1) := by decide +kernel
theorem dL_law_325 : decode cL_law 325 = .ok (.iconst 2, 1) := by decide +kernel
theorem dL_law_326 : decode cL_law 326 = .ok (.iload 11, 2) := by decide +kernel
theorem dL_law_328 : decode cL_law 328 = .ok (.imul, 1) := by decide +kernel
theorem dL_law_329 : decode cL_law 329 = .ok (.iadd, 1) := by decide +kernel
theorem dL_law_330 : decode cL_law 330 = .ok (.iconst 1, 1) := by decide +kernel
theorem dL_law_331 : decode cL_law 331 = .ok (.iadd, 1) := by decide +kernel
theorem dL_law_332 : decode cL_law 332 = .ok (.bipush 10, 2) := by decide +kernel
theorem dL_law_334 : decode cL_law 334 = .ok (.iload 12, 2) := by decide +kernel
theorem dL_law_336 : decode cL_law 336 = .ok (.iconst 2, 1) := by decide +kernel
theorem dL_law_337 : decode cL_law 337 = .ok (.ishr, 1) := by decide +kernel
theorem dL_law_338 : decode cL_law 338 = .ok (.iconst 4, 1) := by decide +kernel
theorem dL_law_339 : decode cL_law 339 = .ok (.invokestatic 112, 3) := by decide +kernel
theorem dL_law_342 : decode cL_law 342 = .ok (.isub, 1) := by decide +kernel
theorem dL_law_343 : decode cL_law 343 = .ok (.iastore, 1) := by decide +kernel
theorem dL_law_344 : decode cL_law 344 = .ok (.iload 10, 2) := by decide +kernel
theorem dL_law_346 : decode cL_law 346 = .ok (.aload 5, 2) := by decide +kernel
theorem dL_law_348 : decode cL_law 348 = .ok (.bipush 10, 2) := by decide +kernel
theorem dL_law_350 : decode cL_law 350 = .ok (.iload 8, 2) := by decide +kernel
theorem dL_law_352 : decode cL_law 352 = .ok (.imul, 1) := by decide +kernel
theorem dL_law_353 : decode cL_law 353 = .ok (.iconst 2, 1) := by decide +kernel
theorem dL_law_354 : decode cL_law 354 = .ok (.iload 11, 2) := by decide +kernel
theorem dL_law_356 : decode cL_law 356 = .ok (.imul, 1) := by decide +kernel
theorem dL_law_357 : decode cL_law 357 = .ok (.iadd, 1) := by decide +kernel
theorem dL_law_358 : decode cL_law 358 = .ok (.iconst 1, 1) := by decide +kernel
theorem dL_law_359 : decode cL_law 359 = .ok (.iadd, 1) := by decide +kernel
theorem dL_law_360 : decode cL_law 360 = .ok (.iaload, 1) := by decide +kernel
theorem dL_law_361 : decode cL_law 361 = .ok (.aload 5, 2) := by decide +kernel
theorem dL_law_363 : decode cL_law 363 = .ok (.bipush 10, 2) := by decide +kernel
theorem dL_law_365 : decode cL_law 365 = .ok (.iload 8, 2) := by decide +kernel
theorem dL_law_367 : decode cL_law 367 = .ok (.imul, 1) := by decide +kernel
theorem dL_law_368 : decode cL_law 368 = .ok (.iconst 2, 1) := by decide +kernel
theorem dL_law_369 : decode cL_law 369 = .ok (.iload 11, 2) := by decide +kernel
theorem dL_law_371 : decode cL_law 371 = .ok (.imul, 1) := by decide +kernel
theorem dL_law_372 : decode cL_law 372 = .ok (.iadd, 1) := by decide +kernel
theorem dL_law_373 : decode cL_law 373 = .ok (.iaload, 1) := by decide +kernel
theorem dL_law_374 : decode cL_law 374 = .ok (.isub, 1) := by decide +kernel
theorem dL_law_375 : decode cL_law 375 = .ok (.iadd, 1) := by decide +kernel
theorem dL_law_376 : decode cL_law 376 = .ok (.istore 10, 2) := by decide +kernel
theorem dL_law_378 : decode cL_law 378 = .ok (.aload_n 1, 1) := by decide +kernel
theorem dL_law_379 : decode cL_law 379 = .ok (.iload 8, 2) := by decide +kernel
theorem dL_law_381 : decode cL_law 381 = .ok (.iload 11, 2) := by decide +kernel
theorem dL_law_383 : decode cL_law 383 = .ok (.aload 5, 2) := by decide +kernel
theorem dL_law_385 : decode cL_law 385 = .ok (.bipush 10, 2) := by decide +kernel
theorem dL_law_387 : decode cL_law 387 = .ok (.iload 8, 2) := by decide +kernel
theorem dL_law_389 : decode cL_law 389 = .ok (.imul, 1) := by decide +kernel
theorem dL_law_390 : decode cL_law 390 = .ok (.iconst 2, 1) := by decide +kernel
theorem dL_law_391 : decode cL_law 391 = .ok (.iload 11, 2) := by decide +kernel
theorem dL_law_393 : decode cL_law 393 = .ok (.imul, 1) := by decide +kernel
theorem dL_law_394 : decode cL_law 394 = .ok (.iadd, 1) := by decide +kernel
theorem dL_law_395 : decode cL_law 395 = .ok (.iaload, 1) := by decide +kernel
theorem dL_law_396 : decode cL_law 396 = .ok (.aload 5, 2) := by decide +kernel
theorem dL_law_398 : decode cL_law 398 = .ok (.bipush 10, 2) := by decide +kernel
theorem dL_law_400 : decode cL_law 400 = .ok (.iload 8, 2) := by decide +kernel
theorem dL_law_402 : decode cL_law 402 = .ok (.imul, 1) := by decide +kernel
theorem dL_law_403 : decode cL_law 403 = .ok (.iconst 2, 1) := by decide +kernel
theorem dL_law_404 : decode cL_law 404 = .ok (.iload 11, 2) := by decide +kernel
theorem dL_law_406 : decode cL_law 406 = .ok (.imul, 1) := by decide +kernel
theorem dL_law_407 : decode cL_law 407 = .ok (.iadd, 1) := by decide +kernel
theorem dL_law_408 : decode cL_law 408 = .ok (.iconst 1, 1) := by decide +kernel
theorem dL_law_409 : decode cL_law 409 = .ok (.iadd, 1) := by decide +kernel
theorem dL_law_410 : decode cL_law 410 = .ok (.iaload, 1) := by decide +kernel
theorem dL_law_411 : decode cL_law 411 = .ok (.invokevirtual 132, 3) := by decide +kernel
theorem dL_law_414 : decode cL_law 414 = .ok (.iload 10, 2) := by decide +kernel
theorem dL_law_416 : decode cL_law 416 = .ok (.if_icmp .eq 5, 3) := by decide +kernel
theorem dL_law_419 : decode cL_law 419 = .ok (.iconst 0, 1) := by decide +kernel
theorem dL_law_420 : decode cL_law 420 = .ok (.ireturn, 1) := by decide +kernel
theorem dL_law_421 : decode cL_law 421 = .ok (.iinc 11 1, 3) := by decide +kernel
theorem dL_law_424 : decode cL_law 424 = .ok (.goto (-147), 3) := by decide +kernel
theorem dL_law_427 : decode cL_law 427 = .ok (.iconst 0, 1) := by decide +kernel
theorem dL_law_428 : decode cL_law 428 = .ok (.istore 11, 2) := by decide +kernel
theorem dL_law_430 : decode cL_law 430 = .ok (.iconst 0, 1) := by decide +kernel
theorem dL_law_431 : decode cL_law 431 = .ok (.istore 12, 2) := by decide +kernel
theorem dL_law_433 : decode cL_law 433 = .ok (.iload 12, 2) := by decide +kernel
theorem dL_law_435 : decode cL_law 435 = .ok (.iconst 4, 1) := by decide +kernel
theorem dL_law_436 : decode cL_law 436 = .ok (.if_icmp .ge 87, 3) := by decide +kernel
theorem dL_law_439 : decode cL_law 439 = .ok (.aload 6, 2) := by decide +kernel
theorem dL_law_441 : decode cL_law 441 = .ok (.iconst 4, 1) := by decide +kernel
theorem dL_law_442 : decode cL_law 442 = .ok (.iload 8, 2) := by decide +kernel
theorem dL_law_444 : decode cL_law 444 = .ok (.imul, 1) := by decide +kernel
theorem dL_law_445 : decode cL_law 445 = .ok (.iload 12, 2) := by decide +kernel
theorem dL_law_447 : decode cL_law 447 = .ok (.iadd, 1) := by decide +kernel
theorem dL_law_448 : decode cL_law 448 = .ok (.iload 12, 2) := by decide +kernel
theorem dL_law_450 : decode cL_law 450 = .ok (.iconst 3, 1) := by decide +kernel
theorem dL_law_451 : decode cL_law 451 = .ok (.if_icmp .ne 7, 3) := by decide +kernel
theorem dL_law_454 : decode cL_law 454 = .ok (.iconst 0, 1) := by decide +kernel
theorem dL_law_455 : decode cL_law 455 = .ok (.goto 12, 3) := by decide +kernel
theorem dL_law_458 : decode cL_law 458 = .ok (.iload 9, 2) := by decide +kernel
theorem dL_law_460 : decode cL_law 460 = .ok (.iload 12, 2) := by decide +kernel
theorem dL_law_462 : decode cL_law 462 = .ok (.ishr, 1) := by decide +kernel
theorem dL_law_463 : decode cL_law 463 = .ok (.iconst 2, 1) := by decide +kernel
theorem dL_law_464 : decode cL_law 464 = .ok (.invokestatic 112, 3) := by decide +kernel
theorem dL_law_467 : decode cL_law 467 = .ok (.iastore, 1) := by decide +kernel
theorem dL_law_468 : decode cL_law 468 = .ok (.iload 11, 2) := by decide +kernel
theorem dL_law_470 : decode cL_law 470 = .ok (.aload 6, 2) := by decide +kernel
theorem dL_law_472 : decode cL_law 472 = .ok (.iconst 4, 1) := by decide +kernel
theorem dL_law_473 : decode cL_law 473 = .ok (.iload 8, 2) := by decide +kernel
theorem dL_law_475 : decode cL_law 475 = .ok (.imul, 1) := by decide +kernel
theorem dL_law_476 : decode cL_law 476 = .ok (.iload 12, 2) := by decide +kernel
theorem dL_law_478 : decode cL_law 478 = .ok (.iadd, 1) := by decide +kernel
theorem dL_law_479 : decode cL_law 479 = .ok (.iaload, 1) := by decide +kernel
theorem dL_law_480 : decode cL_law 480 = .ok (.iadd, 1) := by decide +kernel
theorem dL_law_481 : decode cL_law 481 = .ok (.istore 11, 2) := by decide +kernel
theorem dL_law_483 : decode cL_law 483 = .ok (.aload_n 1, 1) := by decide +kernel
theorem dL_law_484 : decode cL_law 484 = .ok (.iload 8, 2) := by decide +kernel
theorem dL_law_486 : decode cL_law 486 = .ok (.iload 12, 2) := by decide +kernel
theorem dL_law_488 : decode cL_law 488 = .ok (.aload 6, 2) := by decide +kernel
theorem dL_law_490 : decode cL_law 490 = .ok (.iconst 4, 1) := by decide +kernel
theorem dL_law_491 : decode cL_law 491 = .ok (.iload 8, 2) := by decide +kernel
theorem dL_law_493 : decode cL_law 493 = .ok (.imul, 1) := by decide +kernel
theorem dL_law_494 : decode cL_law 494 = .ok (.iload 12, 2) := by decide +kernel
theorem dL_law_496 : decode cL_law 496 = .ok (.iadd, 1) := by decide +kernel
theorem dL_law_497 : decode cL_law 497 = .ok (.iaload, 1) := by decide +kernel
theorem dL_law_498 : decode cL_law 498 = .ok (.iconst 1, 1) := by decide +kernel
theorem dL_law_499 : decode cL_law 499 = .ok (.if_icmp .ne 7, 3) := by decide +kernel
theorem dL_law_502 : decode cL_law 502 = .ok (.iconst 1, 1) := by decide +kernel
theorem dL_law_503 : decode cL_law 503 = .ok (.goto 4, 3) := by decide +kernel
theorem dL_law_506 : decode cL_law 506 = .ok (.iconst 0, 1) := by decide +kernel
theorem dL_law_507 : decode cL_law 507 = .ok (.invokevirtual 136, 3) := by decide +kernel
theorem dL_law_510 : decode cL_law 510 = .ok (.iload 11, 2) := by decide +kernel
theorem dL_law_512 : decode cL_law 512 = .ok (.if_icmp .eq 5, 3) := by decide +kernel
theorem dL_law_515 : decode cL_law 515 = .ok (.iconst 0, 1) := by decide +kernel
theorem dL_law_516 : decode cL_law 516 = .ok (.ireturn, 1) := by decide +kernel
theorem dL_law_517 : decode cL_law 517 = .ok (.iinc 12 1, 3) := by decide +kernel
theorem dL_law_520 : decode cL_law 520 = .ok (.goto (-87), 3) := by decide +kernel
theorem dL_law_523 : decode cL_law 523 = .ok (.iinc 8 1, 3) := by decide +kernel
theorem dL_law_526 : decode cL_law 526 = .ok (.goto (-285), 3) := by decide +kernel
theorem dL_law_529 : decode cL_law 529 = .ok (.iconst 0, 1) := by decide +kernel
theorem dL_law_530 : decode cL_law 530 = .ok (.istore 8, 2) := by decide +kernel
theorem dL_law_532 : decode cL_law 532 = .ok (.iload 8, 2) := by decide +kernel
theorem dL_law_534 : decode cL_law 534 = .ok (.aload_n 2, 1) := by decide +kernel
theorem dL_law_535 : decode cL_law 535 = .ok (.bipush 7, 2) := by decide +kernel
theorem dL_law_537 : decode cL_law 537 = .ok (.iaload, 1) := by decide +kernel
theorem dL_law_538 : decode cL_law 538 = .ok (.if_icmp .ge 169, 3) := by decide +kernel
theorem dL_law_541 : decode cL_law 541 = .ok (.aload_n 0, 1) := by decide +kernel
theorem dL_law_542 : decode cL_law 542 = .ok (.bipush 24, 2) := by decide +kernel
theorem dL_law_544 : decode cL_law 544 = .ok (.iload 8, 2) := by decide +kernel
theorem dL_law_546 : decode cL_law 546 = .ok (.iadd, 1) := by decide +kernel
theorem dL_law_547 : decode cL_law 547 = .ok (.invokestatic 116, 3) := by decide +kernel
theorem dL_law_550 : decode cL_law 550 = .ok (.istore 9, 2) := by decide +kernel
theorem dL_law_552 : decode cL_law 552 = .ok (.aload_n 3, 1) := by decide +kernel
theorem dL_law_553 : decode cL_law 553 = .ok (.iconst 4, 1) := by decide +kernel
theorem dL_law_554 : decode cL_law 554 = .ok (.iload 8, 2) := by decide +kernel
theorem dL_law_556 : decode cL_law 556 = .ok (.imul, 1) := by decide +kernel
theorem dL_law_557 : decode cL_law 557 = .ok (.iconst 3, 1) := by decide +kernel
theorem dL_law_558 : decode cL_law 558 = .ok (.iload 9, 2) := by decide +kernel
theorem dL_law_560 : decode cL_law 560 = .ok (.bipush 75, 2) := by decide +kernel
theorem dL_law_562 : decode cL_law 562 = .ok (.invokestatic 112, 3) := by decide +kernel
theorem dL_law_565 : decode cL_law 565 = .ok (.iadd, 1) := by decide +kernel
theorem dL_law_566 : decode cL_law 566 = .ok (.iastore, 1) := by decide +kernel
theorem dL_law_567 : decode cL_law 567 = .ok (.aload_n 3, 1) := by decide +kernel
theorem dL_law_568 : decode cL_law 568 = .ok (.iconst 4, 1) := by decide +kernel
theorem dL_law_569 : decode cL_law 569 = .ok (.iload 8, 2) := by decide +kernel
theorem dL_law_571 : decode cL_law 571 = .ok (.imul, 1) := by decide +kernel
theorem dL_law_572 : decode cL_law 572 = .ok (.iconst 1, 1) := by decide +kernel
theorem dL_law_573 : decode cL_law 573 = .ok (.iadd, 1) := by decide +kernel
theorem dL_law_574 : decode cL_law 574 = .ok (.iload 9, 2) := by decide +kernel
theorem dL_law_576 : decode cL_law 576 = .ok (.bipush 7, 2) := by decide +kernel
theorem dL_law_578 : decode cL_law 578 = .ok (.ishr, 1) := by decide +kernel
theorem dL_law_579 : decode cL_law 579 = .ok (.iconst 2, 1) := by decide +kernel
theorem dL_law_580 : decode cL_law 580 = .ok (.invokestatic 112, 3) := by decide +kernel
theorem dL_law_583 : decode cL_law 583 = .ok (.iastore, 1) := by decide +kernel
theorem dL_law_584 : decode cL_law 584 = .ok (.aload_n 1, 1) := by decide +kernel
theorem dL_law_585 : decode cL_law 585 = .ok (.aload_n 3, 1) := by decide +kernel
theorem dL_law_586 : decode cL_law 586 = .ok (.iconst 4, 1) := by decide +kernel
theorem dL_law_587 : decode cL_law 587 = .ok (.iload 8, 2) := by decide +kernel
theorem dL_law_589 : decode cL_law 589 = .ok (.imul, 1) := by decide +kernel
theorem dL_law_590 : decode cL_law 590 = .ok (.iaload, 1) := by decide +kernel
theorem dL_law_591 : decode cL_law 591 = .ok (.aload_n 3, 1) := by decide +kernel
theorem dL_law_592 : decode cL_law 592 = .ok (.iconst 4, 1) := by decide +kernel
theorem dL_law_593 : decode cL_law 593 = .ok (.iload 8, 2) := by decide +kernel
theorem dL_law_595 : decode cL_law 595 = .ok (.imul, 1) := by decide +kernel
theorem dL_law_596 : decode cL_law 596 = .ok (.iconst 1, 1) := by decide +kernel
theorem dL_law_597 : decode cL_law 597 = .ok (.iadd, 1) := by decide +kernel
theorem dL_law_598 : decode cL_law 598 = .ok (.iaload, 1) := by decide +kernel
theorem dL_law_599 : decode cL_law 599 = .ok (.invokevirtual 140, 3) := by decide +kernel
theorem dL_law_602 : decode cL_law 602 = .ok (.iload 8, 2) := by decide +kernel
theorem dL_law_604 : decode cL_law 604 = .ok (.if_icmp .eq 5, 3) := by decide +kernel
theorem dL_law_607 : decode cL_law 607 = .ok (.iconst 0, 1) := by decide +kernel
theorem dL_law_608 : decode cL_law 608 = .ok (.ireturn, 1) := by decide +kernel
theorem dL_law_609 : decode cL_law 609 = .ok (.iconst 0, 1) := by decide +kernel
theorem dL_law_610 : decode cL_law 610 = .ok (.istore 10, 2) := by decide +kernel
theorem dL_law_612 : decode cL_law 612 = .ok (.iload 10, 2) := by decide +kernel
theorem dL_law_614 : decode cL_law 614 = .ok (.iconst 5, 1) := by decide +kernel
theorem dL_law_615 : decode cL_law 615 = .ok (.if_icmp .ge 86, 3) := by decide +kernel
theorem dL_law_618 : decode cL_law 618 = .ok (.aload_n 0, 1) := by decide +kernel
theorem dL_law_619 : decode cL_law 619 = .ok (.bipush 30, 2) := by decide +kernel
theorem dL_law_621 : decode cL_law 621 = .ok (.iconst 5, 1) := by decide +kernel
theorem dL_law_622 : decode cL_law 622 = .ok (.iload 8, 2) := by decide +kernel
theorem dL_law_624 : decode cL_law 624 = .ok (.imul, 1) := by decide +kernel
theorem dL_law_625 : decode cL_law 625 = .ok (.iadd, 1) := by decide +kernel
theorem dL_law_626 : decode cL_law 626 = .ok (.iload 10, 2) := by decide +kernel
theorem dL_law_628 : decode cL_law 628 = .ok (.iadd, 1) := by decide +kernel
theorem dL_law_629 : decode cL_law 629 = .ok (.invokestatic 116, 3) := by decide +kernel
theorem dL_law_632 : decode cL_law 632 = .ok (.bipush 10, 2) := by decide +kernel
theorem dL_law_634 : decode cL_law 634 = .ok (.iload 8, 2) := by decide +kernel
theorem dL_law_636 : decode cL_law 636 = .ok (.imul, 1) := by decide +kernel
theorem dL_law_637 : decode cL_law 637 = .ok (.iload 10, 2) := by decide +kernel
theorem dL_law_639 : decode cL_law 639 = .ok (.aload 4, 2) := by decide +kernel
theorem dL_law_641 : decode cL_law 641 = .ok (.invokestatic 143, 3) := by decide +kernel
theorem dL_law_644 : decode cL_law 644 = .ok (.ifCond .eq 49, 3) := by decide +kernel
theorem dL_law_647 : decode cL_law 647 = .ok (.aload_n 1, 1) := by decide +kernel
theorem dL_law_648 : decode cL_law 648 = .ok (.iload 8, 2) := by decide +kernel
theorem dL_law_650 : decode cL_law 650 = .ok (.iload 10, 2) := by decide +kernel
theorem dL_law_652 : decode cL_law 652 = .ok (.aload 4, 2) := by decide +kernel
theorem dL_law_654 : decode cL_law 654 = .ok (.bipush 10, 2) := by decide +kernel
theorem dL_law_656 : decode cL_law 656 = .ok (.iload 8, 2) := by decide +kernel
theorem dL_law_658 : decode cL_law 658 = .ok (.imul, 1) := by decide +kernel
theorem dL_law_659 : decode cL_law 659 = .ok (.iconst 2, 1) := by decide +kernel
theorem dL_law_660 : decode cL_law 660 = .ok (.iload 10, 2) := by decide +kernel
theorem dL_law_662 : decode cL_law 662 = .ok (.imul, 1) := by decide +kernel
theorem dL_law_663 : decode cL_law 663 = .ok (.iadd, 1) := by decide +kernel
theorem dL_law_664 : decode cL_law 664 = .ok (.iaload, 1) := by decide +kernel
theorem dL_law_665 : decode cL_law 665 = .ok (.aload 4, 2) := by decide +kernel
theorem dL_law_667 : decode cL_law 667 = .ok (.bipush 10, 2) := by decide +kernel
theorem dL_law_669 : decode cL_law 669 = .ok (.iload 8, 2) := by decide +kernel
theorem dL_law_671 : decode cL_law 671 = .ok (.imul, 1) := by decide +kernel
theorem dL_law_672 : decode cL_law 672 = .ok (.iconst 2, 1) := by decide +kernel
theorem dL_law_673 : decode cL_law 673 = .ok (.iload 10, 2) := by decide +kernel
theorem dL_law_675 : decode cL_law 675 = .ok (.imul, 1) := by decide +kernel
theorem dL_law_676 : decode cL_law 676 = .ok (.iadd, 1) := by decide +kernel
theorem dL_law_677 : decode cL_law 677 = .ok (.iconst 1, 1) := by decide +kernel
theorem dL_law_678 : decode cL_law 678 = .ok (.iadd, 1) := by decide +kernel
theorem dL_law_679 : decode cL_law 679 = .ok (.iaload, 1) := by decide +kernel
theorem dL_law_680 : decode cL_law 680 = .ok (.invokevirtual 146, 3) := by decide +kernel
theorem dL_law_683 : decode cL_law 683 = .ok (.iload 8, 2) := by decide +kernel
theorem dL_law_685 : decode cL_law 685 = .ok (.aload 4, 2) := by decide +kernel
theorem dL_law_687 : decode cL_law 687 = .ok (.invokestatic 31, 3) := by decide +kernel
theorem dL_law_690 : decode cL_law 690 = .ok (.if_icmp .eq 5, 3) := by decide +kernel
theorem dL_law_693 : decode cL_law 693 = .ok (.iconst 0, 1) := by decide +kernel
theorem dL_law_694 : decode cL_law 694 = .ok (.ireturn, 1) := by decide +kernel
theorem dL_law_695 : decode cL_law 695 = .ok (.iinc 10 1, 3) := by decide +kernel
theorem dL_law_698 : decode cL_law 698 = .ok (.goto (-86), 3) := by decide +kernel
theorem dL_law_701 : decode cL_law 701 = .ok (.iinc 8 1, 3) := by decide +kernel
theorem dL_law_704 : decode cL_law 704 = .ok (.goto (-172), 3) := by decide +kernel
theorem dL_law_707 : decode cL_law 707 = .ok (.aload_n 1, 1) := by decide +kernel
theorem dL_law_708 : decode cL_law 708 = .ok (.aload_n 2, 1) := by decide +kernel
theorem dL_law_709 : decode cL_law 709 = .ok (.aload_n 3, 1) := by decide +kernel
theorem dL_law_710 : decode cL_law 710 = .ok (.aload 4, 2) := by decide +kernel
theorem dL_law_712 : decode cL_law 712 = .ok (.aload 5, 2) := by decide +kernel
theorem dL_law_714 : decode cL_law 714 = .ok (.aload 6, 2) := by decide +kernel
theorem dL_law_716 : decode cL_law 716 = .ok (.invokestatic 149, 3) := by decide +kernel
theorem dL_law_719 : decode cL_law 719 = .ok (.ifCond .ne 5, 3) := by decide +kernel
theorem dL_law_722 : decode cL_law 722 = .ok (.iconst 0, 1) := by decide +kernel
theorem dL_law_723 : decode cL_law 723 = .ok (.ireturn, 1) := by decide +kernel
theorem dL_law_724 : decode cL_law 724 = .ok (.iconst 0, 1) := by decide +kernel
theorem dL_law_725 : decode cL_law 725 = .ok (.istore 8, 2) := by decide +kernel
theorem dL_law_727 : decode cL_law 727 = .ok (.aload_n 2, 1) := by decide +kernel
theorem dL_law_728 : decode cL_law 728 = .ok (.aload_n 3, 1) := by decide +kernel
theorem dL_law_729 : decode cL_law 729 = .ok (.aload 4, 2) := by decide +kernel
theorem dL_law_731 : decode cL_law 731 = .ok (.aload 5, 2) := by decide +kernel
theorem dL_law_733 : decode cL_law 733 = .ok (.aload 6, 2) := by decide +kernel
theorem dL_law_735 : decode cL_law 735 = .ok (.invokestatic 153, 3) := by decide +kernel
theorem dL_law_738 : decode cL_law 738 = .ok (.istore 9, 2) := by decide +kernel
theorem dL_law_740 : decode cL_law 740 = .ok (.iload 9, 2) := by decide +kernel
theorem dL_law_742 : decode cL_law 742 = .ok (.ifCond .lt 31, 3) := by decide +kernel
theorem dL_law_745 : decode cL_law 745 = .ok (.aload_n 3, 1) := by decide +kernel
theorem dL_law_746 : decode cL_law 746 = .ok (.iconst 4, 1) := by decide +kernel
theorem dL_law_747 : decode cL_law 747 = .ok (.iload 9, 2) := by decide +kernel
theorem dL_law_749 : decode cL_law 749 = .ok (.imul, 1) := by decide +kernel
theorem dL_law_750 : decode cL_law 750 = .ok (.iconst 2, 1) := by decide +kernel
theorem dL_law_751 : decode cL_law 751 = .ok (.iadd, 1) := by decide +kernel
theorem dL_law_752 : decode cL_law 752 = .ok (.iconst 1, 1) := by decide +kernel
theorem dL_law_753 : decode cL_law 753 = .ok (.iastore, 1) := by decide +kernel
theorem dL_law_754 : decode cL_law 754 = .ok (.iinc 8 1, 3) := by decide +kernel
theorem dL_law_757 : decode cL_law 757 = .ok (.aload_n 2, 1) := by decide +kernel
theorem dL_law_758 : decode cL_law 758 = .ok (.aload_n 3, 1) := by decide +kernel
theorem dL_law_759 : decode cL_law 759 = .ok (.aload 4, 2) := by decide +kernel
theorem dL_law_761 : decode cL_law 761 = .ok (.aload 5, 2) := by decide +kernel
theorem dL_law_763 : decode cL_law 763 = .ok (.aload 6, 2) := by decide +kernel
theorem dL_law_765 : decode cL_law 765 = .ok (.invokestatic 153, 3) := by decide +kernel
theorem dL_law_768 : decode cL_law 768 = .ok (.istore 9, 2) := by decide +kernel
theorem dL_law_770 : decode cL_law 770 = .ok (.goto (-30), 3) := by decide +kernel
theorem dL_law_773 : decode cL_law 773 = .ok (.aload_n 1, 1) := by decide +kernel
theorem dL_law_774 : decode cL_law 774 = .ok (.invokevirtual 157, 3) := by decide +kernel
theorem dL_law_777 : decode cL_law 777 = .ok (.iload 8, 2) := by decide +kernel
theorem dL_law_779 : decode cL_law 779 = .ok (.if_icmp .ne 18, 3) := by decide +kernel
theorem dL_law_782 : decode cL_law 782 = .ok (.aload_n 1, 1) := by decide +kernel
theorem dL_law_783 : decode cL_law 783 = .ok (.aload_n 2, 1) := by decide +kernel
theorem dL_law_784 : decode cL_law 784 = .ok (.aload_n 3, 1) := by decide +kernel
theorem dL_law_785 : decode cL_law 785 = .ok (.aload 4, 2) := by decide +kernel
theorem dL_law_787 : decode cL_law 787 = .ok (.aload 5, 2) := by decide +kernel
theorem dL_law_789 : decode cL_law 789 = .ok (.aload 6, 2) := by decide +kernel
theorem dL_law_791 : decode cL_law 791 = .ok (.invokestatic 149, 3) := by decide +kernel
theorem dL_law_794 : decode cL_law 794 = .ok (.ifCond .ne 5, 3) := by decide +kernel
theorem dL_law_797 : decode cL_law 797 = .ok (.iconst 0, 1) := by decide +kernel
theorem dL_law_798 : decode cL_law 798 = .ok (.ireturn, 1) := by decide +kernel
theorem dL_law_799 : decode cL_law 799 = .ok (.aload_n 0, 1) := by decide +kernel
theorem dL_law_800 : decode cL_law 800 = .ok (.bipush 60, 2) := by decide +kernel
theorem dL_law_802 : decode cL_law 802 = .ok (.invokestatic 116, 3) := by decide +kernel
theorem dL_law_805 : decode cL_law 805 = .ok (.aload_n 2, 1) := by decide +kernel
theorem dL_law_806 : decode cL_law 806 = .ok (.bipush 7, 2) := by decide +kernel
theorem dL_law_808 : decode cL_law 808 = .ok (.iaload, 1) := by decide +kernel
theorem dL_law_809 : decode cL_law 809 = .ok (.invokestatic 112, 3) := by decide +kernel
theorem dL_law_812 : decode cL_law 812 = .ok (.istore 9, 2) := by decide +kernel
theorem dL_law_814 : decode cL_law 814 = .ok (.aload_n 0, 1) := by decide +kernel
theorem dL_law_815 : decode cL_law 815 = .ok (.bipush 60, 2) := by decide +kernel
theorem dL_law_817 : decode cL_law 817 = .ok (.invokestatic 116, 3) := by decide +kernel
theorem dL_law_820 : decode cL_law 820 = .ok (.iconst 3, 1) := by decide +kernel
theorem dL_law_821 : decode cL_law 821 = .ok (.ishr, 1) := by decide +kernel
theorem dL_law_822 : decode cL_law 822 = .ok (.iconst 5, 1) := by decide +kernel
theorem dL_law_823 : decode cL_law 823 = .ok (.invokestatic 112, 3) := by decide +kernel
theorem dL_law_826 : decode cL_law 826 = .ok (.istore 10, 2) := by decide +kernel
theorem dL_law_828 : decode cL_law 828 = .ok (.aload 4, 2) := by decide +kernel
theorem dL_law_830 : decode cL_law 830 = .ok (.bipush 10, 2) := by decide +kernel
theorem dL_law_832 : decode cL_law 832 = .ok (.iload 9, 2) := by decide +kernel
theorem dL_law_834 : decode cL_law 834 = .ok (.imul, 1) := by decide +kernel
theorem dL_law_835 : decode cL_law 835 = .ok (.iconst 2, 1) := by decide +kernel
theorem dL_law_836 : decode cL_law 836 = .ok (.iload 10, 2) := by decide +kernel
theorem dL_law_838 : decode cL_law 838 = .ok (.imul, 1) := by decide +kernel
theorem dL_law_839 : decode cL_law 839 = .ok (.iadd, 1) := by decide +kernel
theorem dL_law_840 : decode cL_law 840 = .ok (.iaload, 1) := by decide +kernel
theorem dL_law_841 : decode cL_law 841 = .ok (.istore 11, 2) := by decide +kernel
theorem dL_law_843 : decode cL_law 843 = .ok (.aload 4, 2) := by decide +kernel
theorem dL_law_845 : decode cL_law 845 = .ok (.bipush 10, 2) := by decide +kernel
theorem dL_law_847 : decode cL_law 847 = .ok (.iload 9, 2) := by decide +kernel
theorem dL_law_849 : decode cL_law 849 = .ok (.imul, 1) := by decide +kernel
theorem dL_law_850 : decode cL_law 850 = .ok (.iconst 2, 1) := by decide +kernel
theorem dL_law_851 : decode cL_law 851 = .ok (.iload 10, 2) := by decide +kernel
theorem dL_law_853 : decode cL_law 853 = .ok (.imul, 1) := by decide +kernel
theorem dL_law_854 : decode cL_law 854 = .ok (.iadd, 1) := by decide +kernel
theorem dL_law_855 : decode cL_law 855 = .ok (.iconst 1, 1) := by decide +kernel
theorem dL_law_856 : decode cL_law 856 = .ok (.iadd, 1) := by decide +kernel
theorem dL_law_857 : decode cL_law 857 = .ok (.iaload, 1) := by decide +kernel
theorem dL_law_858 : decode cL_law 858 = .ok (.istore 12, 2) := by decide +kernel
theorem dL_law_860 : decode cL_law 860 = .ok (.aload_n 0, 1) := by decide +kernel
theorem dL_law_861 : decode cL_law 861 = .ok (.bipush 61, 2) := by decide +kernel
theorem dL_law_863 : decode cL_law 863 = .ok (.invokestatic 116, 3) := by decide +kernel
theorem dL_law_866 : decode cL_law 866 = .ok (.bipush 10, 2) := by decide +kernel
theorem dL_law_868 : decode cL_law 868 = .ok (.iload 9, 2) := by decide +kernel
theorem dL_law_870 : decode cL_law 870 = .ok (.imul, 1) := by decide +kernel
theorem dL_law_871 : decode cL_law 871 = .ok (.iload 10, 2) := by decide +kernel
theorem dL_law_873 : decode cL_law 873 = .ok (.aload 4, 2) := by decide +kernel
theorem dL_law_875 : decode cL_law 875 = .ok (.invokestatic 143, 3) := by decide +kernel
theorem dL_law_878 : decode cL_law 878 = .ok (.istore 13, 2) := by decide +kernel
theorem dL_law_880 : decode cL_law 880 = .ok (.iconst 0, 1) := by decide +kernel
theorem dL_law_881 : decode cL_law 881 = .ok (.istore 14, 2) := by decide +kernel
theorem dL_law_883 : decode cL_law 883 = .ok (.iload 14, 2) := by decide +kernel
theorem dL_law_885 : decode cL_law 885 = .ok (.bipush 10, 2) := by decide +kernel
theorem dL_law_887 : decode cL_law 887 = .ok (.if_icmp .ge 82, 3) := by decide +kernel
theorem dL_law_890 : decode cL_law 890 = .ok (.aload_n 3, 1) := by decide +kernel
theorem dL_law_891 : decode cL_law 891 = .ok (.iconst 4, 1) := by decide +kernel
theorem dL_law_892 : decode cL_law 892 = .ok (.iload 9, 2) := by decide +kernel
theorem dL_law_894 : decode cL_law 894 = .ok (.imul, 1) := by decide +kernel
theorem dL_law_895 : decode cL_law 895 = .ok (.iconst 2, 1) := by decide +kernel
theorem dL_law_896 : decode cL_law 896 = .ok (.iadd, 1) := by decide +kernel
theorem dL_law_897 : decode cL_law 897 = .ok (.iaload, 1) := by decide +kernel
theorem dL_law_898 : decode cL_law 898 = .ok (.iconst 1, 1) := by decide +kernel
theorem dL_law_899 : decode cL_law 899 = .ok (.if_icmp .ne 70, 3) := by decide +kernel
theorem dL_law_902 : decode cL_law 902 = .ok (.iload 13, 2) := by decide +kernel
theorem dL_law_904 : decode cL_law 904 = .ok (.ifCond .eq 56, 3) := by decide +kernel
theorem dL_law_907 : decode cL_law 907 = .ok (.iload 10, 2) := by decide +kernel
theorem dL_law_909 : decode cL_law 909 = .ok (.iload 14, 2) := by decide +kernel
theorem dL_law_911 : decode cL_law 911 = .ok (.bipush 10, 2) := by decide +kernel
theorem dL_law_913 : decode cL_law 913 = .ok (.iload 9, 2) := by decide +kernel
theorem dL_law_915 : decode cL_law 915 = .ok (.imul, 1) := by decide +kernel
theorem dL_law_916 : decode cL_law 916 = .ok (.aload 4, 2) := by decide +kernel
theorem dL_law_918 : decode cL_law 918 = .ok (.invokestatic 10, 3) := by decide +kernel
theorem dL_law_921 : decode cL_law 921 = .ok (.ifCond .eq 35, 3) := by decide +kernel
theorem dL_law_924 : decode cL_law 924 = .ok (.iload 11, 2) := by decide +kernel
theorem dL_law_926 : decode cL_law 926 = .ok (.iload 14, 2) := by decide +kernel
theorem dL_law_928 : decode cL_law 928 = .ok (.if_icmp .gt 10, 3) := by decide +kernel
theorem dL_law_931 : decode cL_law 931 = .ok (.iload 14, 2) := by decide +kernel
theorem dL_law_933 : decode cL_law 933 = .ok (.iload 12, 2) := by decide +kernel
theorem dL_law_935 : decode cL_law 935 = .ok (.if_icmp .lt 21, 3) := by decide +kernel
theorem dL_law_938 : decode cL_law 938 = .ok (.iload 10, 2) := by decide +kernel
theorem dL_law_940 : decode cL_law 940 = .ok (.iload 14, 2) := by decide +kernel
theorem dL_law_942 : decode cL_law 942 = .ok (.aload_n 2, 1) := by decide +kernel
theorem dL_law_943 : decode cL_law 943 = .ok (.aload_n 3, 1) := by decide +kernel
theorem dL_law_944 : decode cL_law 944 = .ok (.aload 4, 2) := by decide +kernel
theorem dL_law_946 : decode cL_law 946 = .ok (.aload 5, 2) := by decide +kernel
theorem dL_law_948 : decode cL_law 948 = .ok (.aload 6, 2) := by decide +kernel
theorem dL_law_950 : decode cL_law 950 = .ok (.invokestatic 39, 3) := by decide +kernel
theorem dL_law_953 : decode cL_law 953 = .ok (.ifCond .eq 7, 3) := by decide +kernel
theorem dL_law_956 : decode cL_law 956 = .ok (.iconst 1, 1) := by decide +kernel
theorem dL_law_957 : decode cL_law 957 = .ok (.goto 4, 3) := by decide +kernel
theorem dL_law_960 : decode cL_law 960 = .ok (.iconst 0, 1) := by decide +kernel
theorem dL_law_961 : decode cL_law 961 = .ok (.istore 13, 2) := by decide +kernel
theorem dL_law_963 : decode cL_law 963 = .ok (.iinc 14 1, 3) := by decide +kernel
theorem dL_law_966 : decode cL_law 966 = .ok (.goto (-83), 3) := by decide +kernel
theorem dL_law_969 : decode cL_law 969 = .ok (.aload_n 1, 1) := by decide +kernel
theorem dL_law_970 : decode cL_law 970 = .ok (.iload 9, 2) := by decide +kernel
theorem dL_law_972 : decode cL_law 972 = .ok (.iload 10, 2) := by decide +kernel
theorem dL_law_974 : decode cL_law 974 = .ok (.aload 4, 2) := by decide +kernel
theorem dL_law_976 : decode cL_law 976 = .ok (.bipush 10, 2) := by decide +kernel
theorem dL_law_978 : decode cL_law 978 = .ok (.iload 9, 2) := by decide +kernel
theorem dL_law_980 : decode cL_law 980 = .ok (.imul, 1) := by decide +kernel
theorem dL_law_981 : decode cL_law 981 = .ok (.iconst 2, 1) := by decide +kernel
theorem dL_law_982 : decode cL_law 982 = .ok (.iload 10, 2) := by decide +kernel
theorem dL_law_984 : decode cL_law 984 = .ok (.imul, 1) := by decide +kernel
theorem dL_law_985 : decode cL_law 985 = .ok (.iadd, 1) := by decide +kernel
theorem dL_law_986 : decode cL_law 986 = .ok (.iaload, 1) := by decide +kernel
theorem dL_law_987 : decode cL_law 987 = .ok (.aload 4, 2) := by decide +kernel
theorem dL_law_989 : decode cL_law 989 = .ok (.bipush 10, 2) := by decide +kernel
theorem dL_law_991 : decode cL_law 991 = .ok (.iload 9, 2) := by decide +kernel
theorem dL_law_993 : decode cL_law 993 = .ok (.imul, 1) := by decide +kernel
theorem dL_law_994 : decode cL_law 994 = .ok (.iconst 2, 1) := by decide +kernel
theorem dL_law_995 : decode cL_law 995 = .ok (.iload 10, 2) := by decide +kernel
theorem dL_law_997 : decode cL_law 997 = .ok (.imul, 1) := by decide +kernel
theorem dL_law_998 : decode cL_law 998 = .ok (.iadd, 1) := by decide +kernel
theorem dL_law_999 : decode cL_law 999 = .ok (.iconst 1, 1) := by decide +kernel
theorem dL_law_1000 : decode cL_law 1000 = .ok (.iadd, 1) := by decide +kernel
theorem dL_law_1001 : decode cL_law 1001 = .ok (.iaload, 1) := by decide +kernel
theorem dL_law_1002 : decode cL_law 1002 = .ok (.invokevirtual 146, 3) := by decide +kernel
theorem dL_law_1005 : decode cL_law 1005 = .ok (.iload 13, 2) := by decide +kernel
theorem dL_law_1007 : decode cL_law 1007 = .ok (.ifCond .eq 13, 3) := by decide +kernel
theorem dL_law_1010 : decode cL_law 1010 = .ok (.iload 9, 2) := by decide +kernel
theorem dL_law_1012 : decode cL_law 1012 = .ok (.aload 4, 2) := by decide +kernel
theorem dL_law_1014 : decode cL_law 1014 = .ok (.invokestatic 31, 3) := by decide +kernel
theorem dL_law_1017 : decode cL_law 1017 = .ok (.goto 5, 3) := by decide +kernel
theorem dL_law_1020 : decode cL_law 1020 = .ok (.bipush (-3), 2) := by decide +kernel
theorem dL_law_1022 : decode cL_law 1022 = .ok (.if_icmp .eq 5, 3) := by decide +kernel
theorem dL_law_1025 : decode cL_law 1025 = .ok (.iconst 0, 1) := by decide +kernel
theorem dL_law_1026 : decode cL_law 1026 = .ok (.ireturn, 1) := by decide +kernel
theorem dL_law_1027 : decode cL_law 1027 = .ok (.iload 13, 2) := by decide +kernel
theorem dL_law_1029 : decode cL_law 1029 = .ok (.ifCond .ne 35, 3) := by decide +kernel
theorem dL_law_1032 : decode cL_law 1032 = .ok (.aload 4, 2) := by decide +kernel
theorem dL_law_1034 : decode cL_law 1034 = .ok (.bipush 10, 2) := by decide +kernel
theorem dL_law_1036 : decode cL_law 1036 = .ok (.iload 9, 2) := by decide +kernel
theorem dL_law_1038 : decode cL_law 1038 = .ok (.imul, 1) := by decide +kernel
theorem dL_law_1039 : decode cL_law 1039 = .ok (.iconst 2, 1) := by decide +kernel
theorem dL_law_1040 : decode cL_law 1040 = .ok (.iload 10, 2) := by decide +kernel
theorem dL_law_1042 : decode cL_law 1042 = .ok (.imul, 1) := by decide +kernel
theorem dL_law_1043 : decode cL_law 1043 = .ok (.iadd, 1) := by decide +kernel
theorem dL_law_1044 : decode cL_law 1044 = .ok (.iload 11, 2) := by decide +kernel
theorem dL_law_1046 : decode cL_law 1046 = .ok (.iastore, 1) := by decide +kernel
theorem dL_law_1047 : decode cL_law 1047 = .ok (.aload 4, 2) := by decide +kernel
theorem dL_law_1049 : decode cL_law 1049 = .ok (.bipush 10, 2) := by decide +kernel
theorem dL_law_1051 : decode cL_law 1051 = .ok (.iload 9, 2) := by decide +kernel
theorem dL_law_1053 : decode cL_law 1053 = .ok (.imul, 1) := by decide +kernel
theorem dL_law_1054 : decode cL_law 1054 = .ok (.iconst 2, 1) := by decide +kernel
theorem dL_law_1055 : decode cL_law 1055 = .ok (.iload 10, 2) := by decide +kernel
theorem dL_law_1057 : decode cL_law 1057 = .ok (.imul, 1) := by decide +kernel
theorem dL_law_1058 : decode cL_law 1058 = .ok (.iadd, 1) := by decide +kernel
theorem dL_law_1059 : decode cL_law 1059 = .ok (.iconst 1, 1) := by decide +kernel
theorem dL_law_1060 : decode cL_law 1060 = .ok (.iadd, 1) := by decide +kernel
theorem dL_law_1061 : decode cL_law 1061 = .ok (.iload 12, 2) := by decide +kernel
theorem dL_law_1063 : decode cL_law 1063 = .ok (.iastore, 1) := by decide +kernel
theorem dL_law_1064 : decode cL_law 1064 = .ok (.aload_n 1, 1) := by decide +kernel
theorem dL_law_1065 : decode cL_law 1065 = .ok (.aload_n 2, 1) := by decide +kernel
theorem dL_law_1066 : decode cL_law 1066 = .ok (.aload_n 3, 1) := by decide +kernel
theorem dL_law_1067 : decode cL_law 1067 = .ok (.aload 4, 2) := by decide +kernel
theorem dL_law_1069 : decode cL_law 1069 = .ok (.aload 5, 2) := by decide +kernel
theorem dL_law_1071 : decode cL_law 1071 = .ok (.aload 6, 2) := by decide +kernel
theorem dL_law_1073 : decode cL_law 1073 = .ok (.invokestatic 149, 3) := by decide +kernel
theorem dL_law_1076 : decode cL_law 1076 = .ok (.ifCond .ne 5, 3) := by decide +kernel
theorem dL_law_1079 : decode cL_law 1079 = .ok (.iconst 0, 1) := by decide +kernel
theorem dL_law_1080 : decode cL_law 1080 = .ok (.ireturn, 1) := by decide +kernel
theorem dL_law_1081 : decode cL_law 1081 = .ok (.aload_n 0, 1) := by decide +kernel
theorem dL_law_1082 : decode cL_law 1082 = .ok (.bipush 62, 2) := by decide +kernel
theorem dL_law_1084 : decode cL_law 1084 = .ok (.invokestatic 116, 3) := by decide +kernel
theorem dL_law_1087 : decode cL_law 1087 = .ok (.iconst 3, 1) := by decide +kernel
theorem dL_law_1088 : decode cL_law 1088 = .ok (.invokestatic 112, 3) := by decide +kernel
theorem dL_law_1091 : decode cL_law 1091 = .ok (.istore 14, 2) := by decide +kernel
theorem dL_law_1093 : decode cL_law 1093 = .ok (.iconst 0, 1) := by decide +kernel
theorem dL_law_1094 : decode cL_law 1094 = .ok (.istore 15, 2) := by decide +kernel
theorem dL_law_1096 : decode cL_law 1096 = .ok (.iload 15, 2) := by decide +kernel
theorem dL_law_1098 : decode cL_law 1098 = .ok (.iload 14, 2) := by decide +kernel
theorem dL_law_1100 : decode cL_law 1100 = .ok (.if_icmp .ge 112, 3) := by decide +kernel
theorem dL_law_1103 : decode cL_law 1103 = .ok (.aload_n 0, 1) := by decide +kernel
theorem dL_law_1104 : decode cL_law 1104 = .ok (.bipush 63, 2) := by decide +kernel
theorem dL_law_1106 : decode cL_law 1106 = .ok (.iload 15, 2) := by decide +kernel
theorem dL_law_1108 : decode cL_law 1108 = .ok (.iadd, 1) := by decide +kernel
theorem dL_law_1109 : decode cL_law 1109 = .ok (.invokestatic 116, 3) := by decide +kernel
theorem dL_law_1112 : decode cL_law 1112 = .ok (.istore 16, 2) := by decide +kernel
theorem dL_law_1114 : decode cL_law 1114 = .ok (.aload 7, 2) := by decide +kernel
theorem dL_law_1116 : decode cL_law 1116 = .ok (.iconst 3, 1) := by decide +kernel
theorem dL_law_1117 : decode cL_law 1117 = .ok (.iload 15, 2) := by decide +kernel
theorem dL_law_1119 : decode cL_law 1119 = .ok (.imul, 1) := by decide +kernel
theorem dL_law_1120 : decode cL_law 1120 = .ok (.iconst 1, 1) := by decide +kernel
theorem dL_law_1121 : decode cL_law 1121 = .ok (.iload 16, 2) := by decide +kernel
theorem dL_law_1123 : decode cL_law 1123 = .ok (.bipush 31, 2) := by decide +kernel
theorem dL_law_1125 : decode cL_law 1125 = .ok (.invokestatic 112, 3) := by decide +kernel
theorem dL_law_1128 : decode cL_law 1128 = .ok (.iadd, 1) := by decide +kernel
theorem dL_law_1129 : decode cL_law 1129 = .ok (.iastore, 1) := by decide +kernel
theorem dL_law_1130 : decode cL_law 1130 = .ok (.aload 7, 2) := by decide +kernel
theorem dL_law_1132 : decode cL_law 1132 = .ok (.iconst 3, 1) := by decide +kernel
theorem dL_law_1133 : decode cL_law 1133 = .ok (.iload 15, 2) := by decide +kernel
theorem dL_law_1135 : decode cL_law 1135 = .ok (.imul, 1) := by decide +kernel
theorem dL_law_1136 : decode cL_law 1136 = .ok (.iconst 1, 1) := by decide +kernel
theorem dL_law_1137 : decode cL_law 1137 = .ok (.iadd, 1) := by decide +kernel
theorem dL_law_1138 : decode cL_law 1138 = .ok (.iconst 1, 1) := by decide +kernel
theorem dL_law_1139 : decode cL_law 1139 = .ok (.iload 16, 2) := by decide +kernel
theorem dL_law_1141 : decode cL_law 1141 = .ok (.iconst 5, 1) := by decide +kernel
theorem dL_law_1142 : decode cL_law 1142 = .ok (.ishr, 1) := by decide +kernel
theorem dL_law_1143 : decode cL_law 1143 = .ok (.iconst 5, 1) := by decide +kernel
theorem dL_law_1144 : decode cL_law 1144 = .ok (.invokestatic 112, 3) := by decide +kernel
theorem dL_law_1147 : decode cL_law 1147 = .ok (.iadd, 1) := by decide +kernel
theorem dL_law_1148 : decode cL_law 1148 = .ok (.iastore, 1) := by decide +kernel
theorem dL_law_1149 : decode cL_law 1149 = .ok (.aload 7, 2) := by decide +kernel
theorem dL_law_1151 : decode cL_law 1151 = .ok (.iconst 3, 1) := by decide +kernel
theorem dL_law_1152 : decode cL_law 1152 = .ok (.iload 15, 2) := by decide +kernel
theorem dL_law_1154 : decode cL_law 1154 = .ok (.imul, 1) := by decide +kernel
theorem dL_law_1155 : decode cL_law 1155 = .ok (.iconst 2, 1) := by decide +kernel
theorem dL_law_1156 : decode cL_law 1156 = .ok (.iadd, 1) := by decide +kernel
theorem dL_law_1157 : decode cL_law 1157 = .ok (.iconst 1, 1) := by decide +kernel
theorem dL_law_1158 : decode cL_law 1158 = .ok (.iload 16, 2) := by decide +kernel
theorem dL_law_1160 : decode cL_law 1160 = .ok (.bipush 8, 2) := by decide +kernel
theorem dL_law_1162 : decode cL_law 1162 = .ok (.ishr, 1) := by decide +kernel
theorem dL_law_1163 : decode cL_law 1163 = .ok (.bipush 20, 2) := by decide +kernel
theorem dL_law_1165 : decode cL_law 1165 = .ok (.invokestatic 112, 3) := by decide +kernel
theorem dL_law_1168 : decode cL_law 1168 = .ok (.iadd, 1) := by decide +kernel
theorem dL_law_1169 : decode cL_law 1169 = .ok (.iastore, 1) := by decide +kernel
theorem dL_law_1170 : decode cL_law 1170 = .ok (.aload_n 1, 1) := by decide +kernel
theorem dL_law_1171 : decode cL_law 1171 = .ok (.aload 7, 2) := by decide +kernel
theorem dL_law_1173 : decode cL_law 1173 = .ok (.iconst 3, 1) := by decide +kernel
theorem dL_law_1174 : decode cL_law 1174 = .ok (.iload 15, 2) := by decide +kernel
theorem dL_law_1176 : decode cL_law 1176 = .ok (.imul, 1) := by decide +kernel
theorem dL_law_1177 : decode cL_law 1177 = .ok (.iaload, 1) := by decide +kernel
theorem dL_law_1178 : decode cL_law 1178 = .ok (.aload 7, 2) := by decide +kernel
theorem dL_law_1180 : decode cL_law 1180 = .ok (.iconst 3, 1) := by decide +kernel
theorem dL_law_1181 : decode cL_law 1181 = .ok (.iload 15, 2) := by decide +kernel
theorem dL_law_1183 : decode cL_law 1183 = .ok (.imul, 1) := by decide +kernel
theorem dL_law_1184 : decode cL_law 1184 = .ok (.iconst 1, 1) := by decide +kernel
theorem dL_law_1185 : decode cL_law 1185 = .ok (.iadd, 1) := by decide +kernel
theorem dL_law_1186 : decode cL_law 1186 = .ok (.iaload, 1) := by decide +kernel
theorem dL_law_1187 : decode cL_law 1187 = .ok (.aload 7, 2) := by decide +kernel
theorem dL_law_1189 : decode cL_law 1189 = .ok (.iconst 3, 1) := by decide +kernel
theorem dL_law_1190 : decode cL_law 1190 = .ok (.iload 15, 2) := by decide +kernel
theorem dL_law_1192 : decode cL_law 1192 = .ok (.imul, 1) := by decide +kernel
theorem dL_law_1193 : decode cL_law 1193 = .ok (.iconst 2, 1) := by decide +kernel
theorem dL_law_1194 : decode cL_law 1194 = .ok (.iadd, 1) := by decide +kernel
theorem dL_law_1195 : decode cL_law 1195 = .ok (.iaload, 1) := by decide +kernel
theorem dL_law_1196 : decode cL_law 1196 = .ok (.invokevirtual 160, 3) := by decide +kernel
theorem dL_law_1199 : decode cL_law 1199 = .ok (.iload 15, 2) := by decide +kernel
theorem dL_law_1201 : decode cL_law 1201 = .ok (.if_icmp .eq 5, 3) := by decide +kernel
theorem dL_law_1204 : decode cL_law 1204 = .ok (.iconst 0, 1) := by decide +kernel
theorem dL_law_1205 : decode cL_law 1205 = .ok (.ireturn, 1) := by decide +kernel
theorem dL_law_1206 : decode cL_law 1206 = .ok (.iinc 15 1, 3) := by decide +kernel
theorem dL_law_1209 : decode cL_law 1209 = .ok (.goto (-113), 3) := by decide +kernel
theorem dL_law_1212 : decode cL_law 1212 = .ok (.aload_n 1, 1) := by decide +kernel
theorem dL_law_1213 : decode cL_law 1213 = .ok (.iload 14, 2) := by decide +kernel
theorem dL_law_1215 : decode cL_law 1215 = .ok (.aload_n 2, 1) := by decide +kernel
theorem dL_law_1216 : decode cL_law 1216 = .ok (.aload_n 3, 1) := by decide +kernel
theorem dL_law_1217 : decode cL_law 1217 = .ok (.aload 4, 2) := by decide +kernel
theorem dL_law_1219 : decode cL_law 1219 = .ok (.aload 5, 2) := by decide +kernel
theorem dL_law_1221 : decode cL_law 1221 = .ok (.aload 6, 2) := by decide +kernel
theorem dL_law_1223 : decode cL_law 1223 = .ok (.aload 7, 2) := by decide +kernel
theorem dL_law_1225 : decode cL_law 1225 = .ok (.invokestatic 164, 3) := by decide +kernel
theorem dL_law_1228 : decode cL_law 1228 = .ok (.ireturn, 1) := by decide +kernel
abbrev vwCl : List vw_C := [(RX0, TX0, 5), (RX1, TX1, 6), (RX2, TX2, 2), (RX3, TX3, 1), (RX4, TX4, 3), (RX5, TX5, 4), (RX6, TX6, 12)]
