-- ===== PART A: goes FIRST, ahead of the names: the tables' words, and 'selects' of the private methods out of them =====
/-- a private method of a class that the tables say can be made, by its rows of tables_1 -/
def lw_okq (q : MethodName × Nat) : Prop := (q.1.cls ≠ "java/lang/invoke/MethodHandle" ∧ q.1.cls ≠ "java/lang/invoke/VarHandle") ∧ Cond.instantiable q.1.cls q.2 ∈ tables_1 ∧ Cond.privateMethod q.1 ∈ tables_1 ∧ Cond.instanceMethod q.1 ∈ tables_1
theorem lw_p0 : lw_okq (⟨"KindergartenPlanner", "childAt", "(I)LKindergartenPlanner$Child;"⟩, 12) := ⟨⟨by decide +kernel, by decide +kernel⟩, List.mem_of_getElem? (i := 13) (by decide +kernel), List.mem_of_getElem? (i := 155) (by decide +kernel), List.mem_of_getElem? (i := 156) (by decide +kernel)⟩
theorem lw_p1 : lw_okq (⟨"KindergartenPlanner", "rebook", "(LKindergartenPlanner$Child;J)I"⟩, 12) := ⟨⟨by decide +kernel, by decide +kernel⟩, List.mem_of_getElem? (i := 13) (by decide +kernel), List.mem_of_getElem? (i := 206) (by decide +kernel), List.mem_of_getElem? (i := 207) (by decide +kernel)⟩
theorem lw_p2 : lw_okq (⟨"KindergartenPlanner", "areSafeWith", "(JLKindergartenPlanner$Child;)Z"⟩, 12) := ⟨⟨by decide +kernel, by decide +kernel⟩, List.mem_of_getElem? (i := 13) (by decide +kernel), List.mem_of_getElem? (i := 210) (by decide +kernel), List.mem_of_getElem? (i := 211) (by decide +kernel)⟩
theorem lw_p3 : lw_okq (⟨"KindergartenPlanner", "countHeads", "(I)V"⟩, 12) := ⟨⟨by decide +kernel, by decide +kernel⟩, List.mem_of_getElem? (i := 13) (by decide +kernel), List.mem_of_getElem? (i := 217) (by decide +kernel), List.mem_of_getElem? (i := 218) (by decide +kernel)⟩
theorem lw_p4 : lw_okq (⟨"KindergartenPlanner", "areHeadsSafe", "(I)Z"⟩, 12) := ⟨⟨by decide +kernel, by decide +kernel⟩, List.mem_of_getElem? (i := 13) (by decide +kernel), List.mem_of_getElem? (i := 236) (by decide +kernel), List.mem_of_getElem? (i := 237) (by decide +kernel)⟩
theorem lw_p5 : lw_okq (⟨"KindergartenPlanner", "staffIn", "(I)I"⟩, 12) := ⟨⟨by decide +kernel, by decide +kernel⟩, List.mem_of_getElem? (i := 13) (by decide +kernel), List.mem_of_getElem? (i := 248) (by decide +kernel), List.mem_of_getElem? (i := 249) (by decide +kernel)⟩
theorem lw_p6 : lw_okq (⟨"KindergartenPlanner", "pointsOf", "(LKindergartenPlanner$Child;)I"⟩, 12) := ⟨⟨by decide +kernel, by decide +kernel⟩, List.mem_of_getElem? (i := 13) (by decide +kernel), List.mem_of_getElem? (i := 268) (by decide +kernel), List.mem_of_getElem? (i := 269) (by decide +kernel)⟩
theorem lw_p7 : lw_okq (⟨"KindergartenPlanner", "hasAdmittedChild", "(I)Z"⟩, 12) := ⟨⟨by decide +kernel, by decide +kernel⟩, List.mem_of_getElem? (i := 13) (by decide +kernel), List.mem_of_getElem? (i := 272) (by decide +kernel), List.mem_of_getElem? (i := 273) (by decide +kernel)⟩
theorem lw_p8 : lw_okq (⟨"KindergartenPlanner", "notePriorities", "()V"⟩, 12) := ⟨⟨by decide +kernel, by decide +kernel⟩, List.mem_of_getElem? (i := 13) (by decide +kernel), List.mem_of_getElem? (i := 280) (by decide +kernel), List.mem_of_getElem? (i := 281) (by decide +kernel)⟩
theorem lw_p9 : lw_okq (⟨"KindergartenPlanner", "priorityOf", "(LKindergartenPlanner$Child;I)I"⟩, 12) := ⟨⟨by decide +kernel, by decide +kernel⟩, List.mem_of_getElem? (i := 13) (by decide +kernel), List.mem_of_getElem? (i := 284) (by decide +kernel), List.mem_of_getElem? (i := 285) (by decide +kernel)⟩
theorem lw_p10 : lw_okq (⟨"KindergartenPlanner", "countAbove", "(I)I"⟩, 12) := ⟨⟨by decide +kernel, by decide +kernel⟩, List.mem_of_getElem? (i := 13) (by decide +kernel), List.mem_of_getElem? (i := 288) (by decide +kernel), List.mem_of_getElem? (i := 289) (by decide +kernel)⟩
theorem lw_p11 : lw_okq (⟨"KindergartenPlanner", "firstThatCanBeAdmitted", "()LKindergartenPlanner$Child;"⟩, 12) := ⟨⟨by decide +kernel, by decide +kernel⟩, List.mem_of_getElem? (i := 13) (by decide +kernel), List.mem_of_getElem? (i := 296) (by decide +kernel), List.mem_of_getElem? (i := 297) (by decide +kernel)⟩
theorem lw_p12 : lw_okq (⟨"KindergartenPlanner", "canBeAdmitted", "(LKindergartenPlanner$Child;)Z"⟩, 12) := ⟨⟨by decide +kernel, by decide +kernel⟩, List.mem_of_getElem? (i := 13) (by decide +kernel), List.mem_of_getElem? (i := 300) (by decide +kernel), List.mem_of_getElem? (i := 301) (by decide +kernel)⟩
theorem lw_p13 : lw_okq (⟨"KindergartenPlanner", "educatorAt", "(I)LKindergartenPlanner$Educator;"⟩, 12) := ⟨⟨by decide +kernel, by decide +kernel⟩, List.mem_of_getElem? (i := 13) (by decide +kernel), List.mem_of_getElem? (i := 329) (by decide +kernel), List.mem_of_getElem? (i := 330) (by decide +kernel)⟩
theorem lw_p14 : lw_okq (⟨"KindergartenPlanner", "needIn", "(I)I"⟩, 12) := ⟨⟨by decide +kernel, by decide +kernel⟩, List.mem_of_getElem? (i := 13) (by decide +kernel), List.mem_of_getElem? (i := 370) (by decide +kernel), List.mem_of_getElem? (i := 371) (by decide +kernel)⟩
theorem lw_p15 : lw_okq (⟨"KindergartenPlanner", "feeOf", "(LKindergartenPlanner$Child;II)I"⟩, 12) := ⟨⟨by decide +kernel, by decide +kernel⟩, List.mem_of_getElem? (i := 13) (by decide +kernel), List.mem_of_getElem? (i := 397) (by decide +kernel), List.mem_of_getElem? (i := 398) (by decide +kernel)⟩
def lw_privs_1 : List (MethodName × Nat) := [(⟨"KindergartenPlanner", "childAt", "(I)LKindergartenPlanner$Child;"⟩, 12), (⟨"KindergartenPlanner", "rebook", "(LKindergartenPlanner$Child;J)I"⟩, 12), (⟨"KindergartenPlanner", "areSafeWith", "(JLKindergartenPlanner$Child;)Z"⟩, 12), (⟨"KindergartenPlanner", "countHeads", "(I)V"⟩, 12), (⟨"KindergartenPlanner", "areHeadsSafe", "(I)Z"⟩, 12), (⟨"KindergartenPlanner", "staffIn", "(I)I"⟩, 12), (⟨"KindergartenPlanner", "pointsOf", "(LKindergartenPlanner$Child;)I"⟩, 12), (⟨"KindergartenPlanner", "hasAdmittedChild", "(I)Z"⟩, 12), (⟨"KindergartenPlanner", "notePriorities", "()V"⟩, 12), (⟨"KindergartenPlanner", "priorityOf", "(LKindergartenPlanner$Child;I)I"⟩, 12), (⟨"KindergartenPlanner", "countAbove", "(I)I"⟩, 12), (⟨"KindergartenPlanner", "firstThatCanBeAdmitted", "()LKindergartenPlanner$Child;"⟩, 12), (⟨"KindergartenPlanner", "canBeAdmitted", "(LKindergartenPlanner$Child;)Z"⟩, 12), (⟨"KindergartenPlanner", "educatorAt", "(I)LKindergartenPlanner$Educator;"⟩, 12), (⟨"KindergartenPlanner", "needIn", "(I)I"⟩, 12), (⟨"KindergartenPlanner", "feeOf", "(LKindergartenPlanner$Child;II)I"⟩, 12)]
theorem lw_r1 : ∀ q ∈ lw_privs_1, lw_okq q := List.forall_mem_cons.mpr ⟨lw_p0, List.forall_mem_cons.mpr ⟨lw_p1, List.forall_mem_cons.mpr ⟨lw_p2, List.forall_mem_cons.mpr ⟨lw_p3, List.forall_mem_cons.mpr ⟨lw_p4, List.forall_mem_cons.mpr ⟨lw_p5, List.forall_mem_cons.mpr ⟨lw_p6, List.forall_mem_cons.mpr ⟨lw_p7, List.forall_mem_cons.mpr ⟨lw_p8, List.forall_mem_cons.mpr ⟨lw_p9, List.forall_mem_cons.mpr ⟨lw_p10, List.forall_mem_cons.mpr ⟨lw_p11, List.forall_mem_cons.mpr ⟨lw_p12, List.forall_mem_cons.mpr ⟨lw_p13, List.forall_mem_cons.mpr ⟨lw_p14, List.forall_mem_cons.mpr ⟨lw_p15, fun _ h => absurd h List.not_mem_nil⟩⟩⟩⟩⟩⟩⟩⟩⟩⟩⟩⟩⟩⟩⟩⟩
theorem lw_p16 : lw_okq (⟨"KindergartenPlanner", "percentageOf", "(LKindergartenPlanner$Child;II)I"⟩, 12) := ⟨⟨by decide +kernel, by decide +kernel⟩, List.mem_of_getElem? (i := 13) (by decide +kernel), List.mem_of_getElem? (i := 401) (by decide +kernel), List.mem_of_getElem? (i := 402) (by decide +kernel)⟩
theorem lw_p17 : lw_okq (⟨"KindergartenPlanner", "rankOf", "(LKindergartenPlanner$Child;II)I"⟩, 12) := ⟨⟨by decide +kernel, by decide +kernel⟩, List.mem_of_getElem? (i := 13) (by decide +kernel), List.mem_of_getElem? (i := 405) (by decide +kernel), List.mem_of_getElem? (i := 406) (by decide +kernel)⟩
theorem lw_p18 : lw_okq (⟨"KindergartenPlanner", "pays", "(LKindergartenPlanner$Child;II)Z"⟩, 12) := ⟨⟨by decide +kernel, by decide +kernel⟩, List.mem_of_getElem? (i := 13) (by decide +kernel), List.mem_of_getElem? (i := 409) (by decide +kernel), List.mem_of_getElem? (i := 410) (by decide +kernel)⟩
theorem lw_p19 : lw_okq (⟨"KindergartenPlanner", "familyFee", "(II)I"⟩, 12) := ⟨⟨by decide +kernel, by decide +kernel⟩, List.mem_of_getElem? (i := 13) (by decide +kernel), List.mem_of_getElem? (i := 417) (by decide +kernel), List.mem_of_getElem? (i := 418) (by decide +kernel)⟩
theorem lw_p20 : lw_okq (⟨"KindergartenPlanner", "noteNeeds", "()V"⟩, 12) := ⟨⟨by decide +kernel, by decide +kernel⟩, List.mem_of_getElem? (i := 13) (by decide +kernel), List.mem_of_getElem? (i := 457) (by decide +kernel), List.mem_of_getElem? (i := 458) (by decide +kernel)⟩
theorem lw_p21 : lw_okq (⟨"KindergartenPlanner", "shortageOf", "(III)I"⟩, 12) := ⟨⟨by decide +kernel, by decide +kernel⟩, List.mem_of_getElem? (i := 13) (by decide +kernel), List.mem_of_getElem? (i := 461) (by decide +kernel), List.mem_of_getElem? (i := 462) (by decide +kernel)⟩
theorem lw_p22 : lw_okq (⟨"KindergartenPlanner", "staffLeft", "(III)I"⟩, 12) := ⟨⟨by decide +kernel, by decide +kernel⟩, List.mem_of_getElem? (i := 13) (by decide +kernel), List.mem_of_getElem? (i := 465) (by decide +kernel), List.mem_of_getElem? (i := 466) (by decide +kernel)⟩
theorem lw_p23 : lw_okq (⟨"KindergartenPlanner", "leastCostBelow", "(III)I"⟩, 12) := ⟨⟨by decide +kernel, by decide +kernel⟩, List.mem_of_getElem? (i := 13) (by decide +kernel), List.mem_of_getElem? (i := 481) (by decide +kernel), List.mem_of_getElem? (i := 482) (by decide +kernel)⟩
theorem lw_p24 : lw_okq (⟨"KindergartenPlanner$CoverSearch", "keepSets", "(I)V"⟩, 6) := ⟨⟨by decide +kernel, by decide +kernel⟩, List.mem_of_getElem? (i := 45) (by decide +kernel), List.mem_of_getElem? (i := 493) (by decide +kernel), List.mem_of_getElem? (i := 494) (by decide +kernel)⟩
theorem lw_p25 : lw_okq (⟨"KindergartenPlanner$CoverSearch", "canGive", "(II)Z"⟩, 6) := ⟨⟨by decide +kernel, by decide +kernel⟩, List.mem_of_getElem? (i := 45) (by decide +kernel), List.mem_of_getElem? (i := 497) (by decide +kernel), List.mem_of_getElem? (i := 498) (by decide +kernel)⟩
theorem lw_p26 : lw_okq (⟨"KindergartenPlanner$CoverSearch", "give", "(II)V"⟩, 6) := ⟨⟨by decide +kernel, by decide +kernel⟩, List.mem_of_getElem? (i := 45) (by decide +kernel), List.mem_of_getElem? (i := 514) (by decide +kernel), List.mem_of_getElem? (i := 515) (by decide +kernel)⟩
theorem lw_p27 : lw_okq (⟨"KindergartenPlanner$CoverSearch", "wagesOf", "(I)I"⟩, 6) := ⟨⟨by decide +kernel, by decide +kernel⟩, List.mem_of_getElem? (i := 45) (by decide +kernel), List.mem_of_getElem? (i := 518) (by decide +kernel), List.mem_of_getElem? (i := 519) (by decide +kernel)⟩
theorem lw_p28 : lw_okq (⟨"KindergartenPlanner", "mixChildren", "(J)J"⟩, 12) := ⟨⟨by decide +kernel, by decide +kernel⟩, List.mem_of_getElem? (i := 13) (by decide +kernel), List.mem_of_getElem? (i := 560) (by decide +kernel), List.mem_of_getElem? (i := 561) (by decide +kernel)⟩
theorem lw_p29 : lw_okq (⟨"KindergartenPlanner", "mixHours", "(J)J"⟩, 12) := ⟨⟨by decide +kernel, by decide +kernel⟩, List.mem_of_getElem? (i := 13) (by decide +kernel), List.mem_of_getElem? (i := 564) (by decide +kernel), List.mem_of_getElem? (i := 565) (by decide +kernel)⟩
theorem lw_p30 : lw_okq (⟨"KindergartenPlannerModel", "childMany", "()I"⟩, 25) := ⟨⟨by decide +kernel, by decide +kernel⟩, List.mem_of_getElem? (i := 572) (by decide +kernel), List.mem_of_getElem? (i := 661) (by decide +kernel), List.mem_of_getElem? (i := 662) (by decide +kernel)⟩
theorem lw_p31 : lw_okq (⟨"KindergartenPlannerModel", "hasChild", "(I)Z"⟩, 25) := ⟨⟨by decide +kernel, by decide +kernel⟩, List.mem_of_getElem? (i := 572) (by decide +kernel), List.mem_of_getElem? (i := 669) (by decide +kernel), List.mem_of_getElem? (i := 670) (by decide +kernel)⟩
def lw_privs_2 : List (MethodName × Nat) := [(⟨"KindergartenPlanner", "percentageOf", "(LKindergartenPlanner$Child;II)I"⟩, 12), (⟨"KindergartenPlanner", "rankOf", "(LKindergartenPlanner$Child;II)I"⟩, 12), (⟨"KindergartenPlanner", "pays", "(LKindergartenPlanner$Child;II)Z"⟩, 12), (⟨"KindergartenPlanner", "familyFee", "(II)I"⟩, 12), (⟨"KindergartenPlanner", "noteNeeds", "()V"⟩, 12), (⟨"KindergartenPlanner", "shortageOf", "(III)I"⟩, 12), (⟨"KindergartenPlanner", "staffLeft", "(III)I"⟩, 12), (⟨"KindergartenPlanner", "leastCostBelow", "(III)I"⟩, 12), (⟨"KindergartenPlanner$CoverSearch", "keepSets", "(I)V"⟩, 6), (⟨"KindergartenPlanner$CoverSearch", "canGive", "(II)Z"⟩, 6), (⟨"KindergartenPlanner$CoverSearch", "give", "(II)V"⟩, 6), (⟨"KindergartenPlanner$CoverSearch", "wagesOf", "(I)I"⟩, 6), (⟨"KindergartenPlanner", "mixChildren", "(J)J"⟩, 12), (⟨"KindergartenPlanner", "mixHours", "(J)J"⟩, 12), (⟨"KindergartenPlannerModel", "childMany", "()I"⟩, 25), (⟨"KindergartenPlannerModel", "hasChild", "(I)Z"⟩, 25)]
theorem lw_r2 : ∀ q ∈ lw_privs_2, lw_okq q := List.forall_mem_cons.mpr ⟨lw_p16, List.forall_mem_cons.mpr ⟨lw_p17, List.forall_mem_cons.mpr ⟨lw_p18, List.forall_mem_cons.mpr ⟨lw_p19, List.forall_mem_cons.mpr ⟨lw_p20, List.forall_mem_cons.mpr ⟨lw_p21, List.forall_mem_cons.mpr ⟨lw_p22, List.forall_mem_cons.mpr ⟨lw_p23, List.forall_mem_cons.mpr ⟨lw_p24, List.forall_mem_cons.mpr ⟨lw_p25, List.forall_mem_cons.mpr ⟨lw_p26, List.forall_mem_cons.mpr ⟨lw_p27, List.forall_mem_cons.mpr ⟨lw_p28, List.forall_mem_cons.mpr ⟨lw_p29, List.forall_mem_cons.mpr ⟨lw_p30, List.forall_mem_cons.mpr ⟨lw_p31, fun _ h => absurd h List.not_mem_nil⟩⟩⟩⟩⟩⟩⟩⟩⟩⟩⟩⟩⟩⟩⟩⟩
theorem lw_p32 : lw_okq (⟨"KindergartenPlannerModel", "hoursOf", "(I)I"⟩, 25) := ⟨⟨by decide +kernel, by decide +kernel⟩, List.mem_of_getElem? (i := 572) (by decide +kernel), List.mem_of_getElem? (i := 689) (by decide +kernel), List.mem_of_getElem? (i := 690) (by decide +kernel)⟩
theorem lw_p33 : lw_okq (⟨"KindergartenPlannerModel", "canHave", "(IIII)Z"⟩, 25) := ⟨⟨by decide +kernel, by decide +kernel⟩, List.mem_of_getElem? (i := 572) (by decide +kernel), List.mem_of_getElem? (i := 703) (by decide +kernel), List.mem_of_getElem? (i := 704) (by decide +kernel)⟩
theorem lw_p34 : lw_okq (⟨"KindergartenPlannerModel", "isBooked", "(III)Z"⟩, 25) := ⟨⟨by decide +kernel, by decide +kernel⟩, List.mem_of_getElem? (i := 572) (by decide +kernel), List.mem_of_getElem? (i := 707) (by decide +kernel), List.mem_of_getElem? (i := 708) (by decide +kernel)⟩
theorem lw_p35 : lw_okq (⟨"KindergartenPlannerModel", "isSafe", "(III)Z"⟩, 25) := ⟨⟨by decide +kernel, by decide +kernel⟩, List.mem_of_getElem? (i := 572) (by decide +kernel), List.mem_of_getElem? (i := 711) (by decide +kernel), List.mem_of_getElem? (i := 712) (by decide +kernel)⟩
theorem lw_p36 : lw_okq (⟨"KindergartenPlannerModel", "presentOf", "(III)I"⟩, 25) := ⟨⟨by decide +kernel, by decide +kernel⟩, List.mem_of_getElem? (i := 572) (by decide +kernel), List.mem_of_getElem? (i := 715) (by decide +kernel), List.mem_of_getElem? (i := 716) (by decide +kernel)⟩
theorem lw_p37 : lw_okq (⟨"KindergartenPlannerModel", "isIn", "(I)Z"⟩, 25) := ⟨⟨by decide +kernel, by decide +kernel⟩, List.mem_of_getElem? (i := 572) (by decide +kernel), List.mem_of_getElem? (i := 719) (by decide +kernel), List.mem_of_getElem? (i := 720) (by decide +kernel)⟩
theorem lw_p38 : lw_okq (⟨"KindergartenPlannerModel", "ageGroup", "(I)I"⟩, 25) := ⟨⟨by decide +kernel, by decide +kernel⟩, List.mem_of_getElem? (i := 572) (by decide +kernel), List.mem_of_getElem? (i := 723) (by decide +kernel), List.mem_of_getElem? (i := 724) (by decide +kernel)⟩
theorem lw_p39 : lw_okq (⟨"KindergartenPlannerModel", "needOf", "(III)I"⟩, 25) := ⟨⟨by decide +kernel, by decide +kernel⟩, List.mem_of_getElem? (i := 572) (by decide +kernel), List.mem_of_getElem? (i := 727) (by decide +kernel), List.mem_of_getElem? (i := 728) (by decide +kernel)⟩
theorem lw_p40 : lw_okq (⟨"KindergartenPlannerModel", "staffOf", "(II)I"⟩, 25) := ⟨⟨by decide +kernel, by decide +kernel⟩, List.mem_of_getElem? (i := 572) (by decide +kernel), List.mem_of_getElem? (i := 731) (by decide +kernel), List.mem_of_getElem? (i := 732) (by decide +kernel)⟩
theorem lw_p41 : lw_okq (⟨"KindergartenPlannerModel", "pointsOf", "(I)I"⟩, 25) := ⟨⟨by decide +kernel, by decide +kernel⟩, List.mem_of_getElem? (i := 572) (by decide +kernel), List.mem_of_getElem? (i := 747) (by decide +kernel), List.mem_of_getElem? (i := 748) (by decide +kernel)⟩
theorem lw_p42 : lw_okq (⟨"KindergartenPlannerModel", "isWaiting", "(I)Z"⟩, 25) := ⟨⟨by decide +kernel, by decide +kernel⟩, List.mem_of_getElem? (i := 572) (by decide +kernel), List.mem_of_getElem? (i := 755) (by decide +kernel), List.mem_of_getElem? (i := 756) (by decide +kernel)⟩
theorem lw_p43 : lw_okq (⟨"KindergartenPlannerModel", "placeOf", "(I)I"⟩, 25) := ⟨⟨by decide +kernel, by decide +kernel⟩, List.mem_of_getElem? (i := 572) (by decide +kernel), List.mem_of_getElem? (i := 759) (by decide +kernel), List.mem_of_getElem? (i := 760) (by decide +kernel)⟩
theorem lw_p44 : lw_okq (⟨"KindergartenPlannerModel", "isBefore", "(II)Z"⟩, 25) := ⟨⟨by decide +kernel, by decide +kernel⟩, List.mem_of_getElem? (i := 572) (by decide +kernel), List.mem_of_getElem? (i := 763) (by decide +kernel), List.mem_of_getElem? (i := 764) (by decide +kernel)⟩
theorem lw_p45 : lw_okq (⟨"KindergartenPlannerModel", "canBeAdmitted", "(I)Z"⟩, 25) := ⟨⟨by decide +kernel, by decide +kernel⟩, List.mem_of_getElem? (i := 572) (by decide +kernel), List.mem_of_getElem? (i := 771) (by decide +kernel), List.mem_of_getElem? (i := 772) (by decide +kernel)⟩
theorem lw_p46 : lw_okq (⟨"KindergartenPlannerModel", "educatorMany", "()I"⟩, 25) := ⟨⟨by decide +kernel, by decide +kernel⟩, List.mem_of_getElem? (i := 572) (by decide +kernel), List.mem_of_getElem? (i := 783) (by decide +kernel), List.mem_of_getElem? (i := 784) (by decide +kernel)⟩
theorem lw_p47 : lw_okq (⟨"KindergartenPlannerModel", "hasEducator", "(I)Z"⟩, 25) := ⟨⟨by decide +kernel, by decide +kernel⟩, List.mem_of_getElem? (i := 572) (by decide +kernel), List.mem_of_getElem? (i := 791) (by decide +kernel), List.mem_of_getElem? (i := 792) (by decide +kernel)⟩
def lw_privs_3 : List (MethodName × Nat) := [(⟨"KindergartenPlannerModel", "hoursOf", "(I)I"⟩, 25), (⟨"KindergartenPlannerModel", "canHave", "(IIII)Z"⟩, 25), (⟨"KindergartenPlannerModel", "isBooked", "(III)Z"⟩, 25), (⟨"KindergartenPlannerModel", "isSafe", "(III)Z"⟩, 25), (⟨"KindergartenPlannerModel", "presentOf", "(III)I"⟩, 25), (⟨"KindergartenPlannerModel", "isIn", "(I)Z"⟩, 25), (⟨"KindergartenPlannerModel", "ageGroup", "(I)I"⟩, 25), (⟨"KindergartenPlannerModel", "needOf", "(III)I"⟩, 25), (⟨"KindergartenPlannerModel", "staffOf", "(II)I"⟩, 25), (⟨"KindergartenPlannerModel", "pointsOf", "(I)I"⟩, 25), (⟨"KindergartenPlannerModel", "isWaiting", "(I)Z"⟩, 25), (⟨"KindergartenPlannerModel", "placeOf", "(I)I"⟩, 25), (⟨"KindergartenPlannerModel", "isBefore", "(II)Z"⟩, 25), (⟨"KindergartenPlannerModel", "canBeAdmitted", "(I)Z"⟩, 25), (⟨"KindergartenPlannerModel", "educatorMany", "()I"⟩, 25), (⟨"KindergartenPlannerModel", "hasEducator", "(I)Z"⟩, 25)]
theorem lw_r3 : ∀ q ∈ lw_privs_3, lw_okq q := List.forall_mem_cons.mpr ⟨lw_p32, List.forall_mem_cons.mpr ⟨lw_p33, List.forall_mem_cons.mpr ⟨lw_p34, List.forall_mem_cons.mpr ⟨lw_p35, List.forall_mem_cons.mpr ⟨lw_p36, List.forall_mem_cons.mpr ⟨lw_p37, List.forall_mem_cons.mpr ⟨lw_p38, List.forall_mem_cons.mpr ⟨lw_p39, List.forall_mem_cons.mpr ⟨lw_p40, List.forall_mem_cons.mpr ⟨lw_p41, List.forall_mem_cons.mpr ⟨lw_p42, List.forall_mem_cons.mpr ⟨lw_p43, List.forall_mem_cons.mpr ⟨lw_p44, List.forall_mem_cons.mpr ⟨lw_p45, List.forall_mem_cons.mpr ⟨lw_p46, List.forall_mem_cons.mpr ⟨lw_p47, fun _ h => absurd h List.not_mem_nil⟩⟩⟩⟩⟩⟩⟩⟩⟩⟩⟩⟩⟩⟩⟩⟩
theorem lw_p48 : lw_okq (⟨"KindergartenPlannerModel", "unsafeMany", "()I"⟩, 25) := ⟨⟨by decide +kernel, by decide +kernel⟩, List.mem_of_getElem? (i := 572) (by decide +kernel), List.mem_of_getElem? (i := 840) (by decide +kernel), List.mem_of_getElem? (i := 841) (by decide +kernel)⟩
theorem lw_p49 : lw_okq (⟨"KindergartenPlannerModel", "feeOf", "(I)I"⟩, 25) := ⟨⟨by decide +kernel, by decide +kernel⟩, List.mem_of_getElem? (i := 572) (by decide +kernel), List.mem_of_getElem? (i := 857) (by decide +kernel), List.mem_of_getElem? (i := 858) (by decide +kernel)⟩
theorem lw_p50 : lw_okq (⟨"KindergartenPlannerModel", "feesOf", "(I)I"⟩, 25) := ⟨⟨by decide +kernel, by decide +kernel⟩, List.mem_of_getElem? (i := 572) (by decide +kernel), List.mem_of_getElem? (i := 865) (by decide +kernel), List.mem_of_getElem? (i := 866) (by decide +kernel)⟩
theorem lw_p51 : lw_okq (⟨"KindergartenPlannerModel", "shortageOf", "(II)I"⟩, 25) := ⟨⟨by decide +kernel, by decide +kernel⟩, List.mem_of_getElem? (i := 572) (by decide +kernel), List.mem_of_getElem? (i := 881) (by decide +kernel), List.mem_of_getElem? (i := 882) (by decide +kernel)⟩
theorem lw_p52 : lw_okq (⟨"KindergartenPlannerModel", "findCosts", "(I)I"⟩, 25) := ⟨⟨by decide +kernel, by decide +kernel⟩, List.mem_of_getElem? (i := 572) (by decide +kernel), List.mem_of_getElem? (i := 889) (by decide +kernel), List.mem_of_getElem? (i := 890) (by decide +kernel)⟩
theorem lw_p53 : lw_okq (⟨"KindergartenPlannerModel", "canBeGiven", "(IIII)Z"⟩, 25) := ⟨⟨by decide +kernel, by decide +kernel⟩, List.mem_of_getElem? (i := 572) (by decide +kernel), List.mem_of_getElem? (i := 894) (by decide +kernel), List.mem_of_getElem? (i := 895) (by decide +kernel)⟩
theorem lw_p54 : lw_okq (⟨"KindergartenPlannerModel", "costWith", "(III)I"⟩, 25) := ⟨⟨by decide +kernel, by decide +kernel⟩, List.mem_of_getElem? (i := 572) (by decide +kernel), List.mem_of_getElem? (i := 901) (by decide +kernel), List.mem_of_getElem? (i := 902) (by decide +kernel)⟩
theorem lw_p55 : lw_okq (⟨"KindergartenPlannerModel", "readText", "()I"⟩, 25) := ⟨⟨by decide +kernel, by decide +kernel⟩, List.mem_of_getElem? (i := 572) (by decide +kernel), List.mem_of_getElem? (i := 925) (by decide +kernel), List.mem_of_getElem? (i := 926) (by decide +kernel)⟩
theorem lw_p56 : lw_okq (⟨"KindergartenPlannerModel", "character", "(II)I"⟩, 25) := ⟨⟨by decide +kernel, by decide +kernel⟩, List.mem_of_getElem? (i := 572) (by decide +kernel), List.mem_of_getElem? (i := 929) (by decide +kernel), List.mem_of_getElem? (i := 930) (by decide +kernel)⟩
def lw_privs_4 : List (MethodName × Nat) := [(⟨"KindergartenPlannerModel", "unsafeMany", "()I"⟩, 25), (⟨"KindergartenPlannerModel", "feeOf", "(I)I"⟩, 25), (⟨"KindergartenPlannerModel", "feesOf", "(I)I"⟩, 25), (⟨"KindergartenPlannerModel", "shortageOf", "(II)I"⟩, 25), (⟨"KindergartenPlannerModel", "findCosts", "(I)I"⟩, 25), (⟨"KindergartenPlannerModel", "canBeGiven", "(IIII)Z"⟩, 25), (⟨"KindergartenPlannerModel", "costWith", "(III)I"⟩, 25), (⟨"KindergartenPlannerModel", "readText", "()I"⟩, 25), (⟨"KindergartenPlannerModel", "character", "(II)I"⟩, 25)]
theorem lw_r4 : ∀ q ∈ lw_privs_4, lw_okq q := List.forall_mem_cons.mpr ⟨lw_p48, List.forall_mem_cons.mpr ⟨lw_p49, List.forall_mem_cons.mpr ⟨lw_p50, List.forall_mem_cons.mpr ⟨lw_p51, List.forall_mem_cons.mpr ⟨lw_p52, List.forall_mem_cons.mpr ⟨lw_p53, List.forall_mem_cons.mpr ⟨lw_p54, List.forall_mem_cons.mpr ⟨lw_p55, List.forall_mem_cons.mpr ⟨lw_p56, fun _ h => absurd h List.not_mem_nil⟩⟩⟩⟩⟩⟩⟩⟩⟩
def lw_privs : List (MethodName × Nat) := lw_privs_1 ++ (lw_privs_2 ++ (lw_privs_3 ++ (lw_privs_4)))
def lw_tbl : List Cond := k2_sels lw_privs ++ tables_1
theorem lw_privs_ok : ∀ q ∈ lw_privs, lw_okq q := by
  show ∀ q ∈ lw_privs_1 ++ (lw_privs_2 ++ (lw_privs_3 ++ (lw_privs_4))), lw_okq q
  exact List.forall_mem_append.mpr ⟨lw_r1, List.forall_mem_append.mpr ⟨lw_r2, List.forall_mem_append.mpr ⟨lw_r3, lw_r4⟩⟩⟩
/-- the streams that the claim lets the run draw from -/
abbrev lw_cs : List Choice := [Jvm.Choice.named "NaN.bits"]
theorem lw_bits : nanBits ∈ lw_cs := by first | decide | exact List.mem_cons_self | simp [lw_cs, nanBits]
-- ===== end of PART A; then your names; then what follows =====
/-- the method of a word of the Statement's tables -/
def lw_meth : Option Cond → MethodName
  | some (.instanceMethod y) => y
  | _ => ⟨"", "", ""⟩
def RX0 : String := "KindergartenPlanner$Child"
def TX0 : u_T := fun k => match k with
  | 0 => ("KindergartenPlanner$Child", "family", "I", true)
  | 1 => ("KindergartenPlanner$Child", "months", "I", false)
  | 2 => ("KindergartenPlanner$Child", "monthsWaited", "I", false)
  | 3 => ("KindergartenPlanner$Child", "admitted", "Z", false)
  | _ => ("KindergartenPlanner$Child", "booked", "J", false)
def tyX0 : Nat → FieldType := fun k => match k with
  | 0 => .int
  | 1 => .int
  | 2 => .int
  | 3 => .boolean
  | _ => .long
abbrev wsX00 : List Cond := u_ws RX0 TX0 5
theorem nmX0 : ∀ a, a < 5 → ∀ b, b < 5 → a ≠ b → (TX0 a).2.1 ≠ (TX0 b).2.1 := by decide +kernel
theorem tyX0_ok : ∀ k, k < 5 → parseFieldDescriptor (TX0 k).2.2.1 = some (tyX0 k) := by decide +kernel
abbrev cX0_init : ByteArray := prog_2_method_1_code
def yX0_init : MethodName := ⟨RX0, "<init>", "(II)V"⟩
abbrev cX0_bookedHours : ByteArray := prog_2_method_2_code
def yX0_bookedHours : MethodName := ⟨RX0, "bookedHours", "()I"⟩
abbrev cX0_group : ByteArray := prog_2_method_3_code
def yX0_group : MethodName := ⟨RX0, "group", "()I"⟩
abbrev cX0_growOlder : ByteArray := prog_2_method_4_code
def yX0_growOlder : MethodName := ⟨RX0, "growOlder", "()V"⟩
def RX1 : String := "KindergartenPlanner$CoverSearch"
def TX1 : u_T := fun k => match k with
  | 0 => ("KindergartenPlanner$CoverSearch", "substitutes", "[LKindergartenPlanner$Substitute;", true)
  | 1 => ("KindergartenPlanner$CoverSearch", "count", "I", false)
  | 2 => ("KindergartenPlanner$CoverSearch", "sets", "[I", true)
  | 3 => ("KindergartenPlanner$CoverSearch", "bestCost", "I", false)
  | 4 => ("KindergartenPlanner$CoverSearch", "shortages", "[I", true)
  | _ => ("KindergartenPlanner$CoverSearch", "bestSets", "[I", true)
def tyX1 : Nat → FieldType := fun k => match k with
  | 0 => .array (.object "KindergartenPlanner$Substitute")
  | 1 => .int
  | 2 => .array .int
  | 3 => .int
  | 4 => .array .int
  | _ => .array .int
abbrev wsX10 : List Cond := u_ws RX1 TX1 6
theorem nmX1 : ∀ a, a < 6 → ∀ b, b < 6 → a ≠ b → (TX1 a).2.1 ≠ (TX1 b).2.1 := by decide +kernel
theorem tyX1_ok : ∀ k, k < 6 → parseFieldDescriptor (TX1 k).2.2.1 = some (tyX1 k) := by decide +kernel
abbrev cX1_init : ByteArray := prog_3_method_1_code
def yX1_init : MethodName := ⟨RX1, "<init>", "()V"⟩
abbrev cX1_join : ByteArray := prog_3_method_2_code
def yX1_join : MethodName := ⟨RX1, "join", "(III)I"⟩
abbrev cX1_leastCostBelow : ByteArray := prog_3_method_3_code
def yX1_leastCostBelow : MethodName := ⟨RX1, "leastCostBelow", "(I)I"⟩
abbrev cX1_coverFrom : ByteArray := prog_3_method_4_code
def yX1_coverFrom : MethodName := ⟨RX1, "coverFrom", "(LKindergartenPlanner$CoverSearch;II)V"⟩
abbrev cX1_keepSets : ByteArray := prog_3_method_5_code
def yX1_keepSets : MethodName := ⟨RX1, "keepSets", "(I)V"⟩
abbrev cX1_canGive : ByteArray := prog_3_method_6_code
def yX1_canGive : MethodName := ⟨RX1, "canGive", "(II)Z"⟩
abbrev cX1_give : ByteArray := prog_3_method_7_code
def yX1_give : MethodName := ⟨RX1, "give", "(II)V"⟩
abbrev cX1_wagesOf : ByteArray := prog_3_method_8_code
def yX1_wagesOf : MethodName := ⟨RX1, "wagesOf", "(I)I"⟩
abbrev cX1_isIn : ByteArray := prog_3_method_9_code
def yX1_isIn : MethodName := ⟨RX1, "isIn", "(II)Z"⟩
def RX2 : String := "KindergartenPlanner$Educator"
def TX2 : u_T := fun k => match k with
  | 0 => ("KindergartenPlanner$Educator", "working", "J", false)
  | _ => ("KindergartenPlanner$Educator", "holidays", "J", false)
def tyX2 : Nat → FieldType := fun k => match k with
  | 0 => .long
  | _ => .long
abbrev wsX20 : List Cond := u_ws RX2 TX2 2
theorem nmX2 : ∀ a, a < 2 → ∀ b, b < 2 → a ≠ b → (TX2 a).2.1 ≠ (TX2 b).2.1 := by decide +kernel
theorem tyX2_ok : ∀ k, k < 2 → parseFieldDescriptor (TX2 k).2.2.1 = some (tyX2 k) := by decide +kernel
abbrev cX2_init : ByteArray := prog_4_method_1_code
def yX2_init : MethodName := ⟨RX2, "<init>", "()V"⟩
abbrev cX2_hasHoliday : ByteArray := prog_4_method_2_code
def yX2_hasHoliday : MethodName := ⟨RX2, "hasHoliday", "(I)Z"⟩
def RX3 : String := "KindergartenPlanner$Headcount"
def TX3 : u_T := fun k => match k with
  | _ => ("KindergartenPlanner$Headcount", "counts", "[I", true)
def tyX3 : Nat → FieldType := fun k => match k with
  | _ => .array .int
abbrev wsX30 : List Cond := u_ws RX3 TX3 1
theorem nmX3 : ∀ a, a < 1 → ∀ b, b < 1 → a ≠ b → (TX3 a).2.1 ≠ (TX3 b).2.1 := by decide +kernel
theorem tyX3_ok : ∀ k, k < 1 → parseFieldDescriptor (TX3 k).2.2.1 = some (tyX3 k) := by decide +kernel
abbrev cX3_init : ByteArray := prog_5_method_1_code
def yX3_init : MethodName := ⟨RX3, "<init>", "()V"⟩
abbrev cX3_clear : ByteArray := prog_5_method_2_code
def yX3_clear : MethodName := ⟨RX3, "clear", "()V"⟩
abbrev cX3_add : ByteArray := prog_5_method_3_code
def yX3_add : MethodName := ⟨RX3, "add", "(I)V"⟩
abbrev cX3_total : ByteArray := prog_5_method_4_code
def yX3_total : MethodName := ⟨RX3, "total", "()I"⟩
abbrev cX3_needAt : ByteArray := prog_5_method_5_code
def yX3_needAt : MethodName := ⟨RX3, "needAt", "(III)I"⟩
def RX4 : String := "KindergartenPlanner$Sheet"
def TX4 : u_T := fun k => match k with
  | 0 => ("KindergartenPlanner$Sheet", "signs", "[C", true)
  | 1 => ("KindergartenPlanner$Sheet", "length", "I", false)
  | _ => ("KindergartenPlanner$Sheet", "booked", "J", false)
def tyX4 : Nat → FieldType := fun k => match k with
  | 0 => .array .char
  | 1 => .int
  | _ => .long
abbrev wsX40 : List Cond := u_ws RX4 TX4 3
theorem nmX4 : ∀ a, a < 3 → ∀ b, b < 3 → a ≠ b → (TX4 a).2.1 ≠ (TX4 b).2.1 := by decide +kernel
theorem tyX4_ok : ∀ k, k < 3 → parseFieldDescriptor (TX4 k).2.2.1 = some (tyX4 k) := by decide +kernel
abbrev cX4_init : ByteArray := prog_6_method_1_code
def yX4_init : MethodName := ⟨RX4, "<init>", "()V"⟩
abbrev cX4_append : ByteArray := prog_6_method_2_code
def yX4_append : MethodName := ⟨RX4, "append", "(C)Z"⟩
abbrev cX4_read : ByteArray := prog_6_method_3_code
def yX4_read : MethodName := ⟨RX4, "read", "()I"⟩
def RX5 : String := "KindergartenPlanner$Substitute"
def TX5 : u_T := fun k => match k with
  | 0 => ("KindergartenPlanner$Substitute", "days", "I", true)
  | 1 => ("KindergartenPlanner$Substitute", "most", "I", true)
  | 2 => ("KindergartenPlanner$Substitute", "wage", "I", true)
  | _ => ("KindergartenPlanner$Substitute", "given", "I", false)
def tyX5 : Nat → FieldType := fun k => match k with
  | 0 => .int
  | 1 => .int
  | 2 => .int
  | _ => .int
abbrev wsX50 : List Cond := u_ws RX5 TX5 4
theorem nmX5 : ∀ a, a < 4 → ∀ b, b < 4 → a ≠ b → (TX5 a).2.1 ≠ (TX5 b).2.1 := by decide +kernel
theorem tyX5_ok : ∀ k, k < 4 → parseFieldDescriptor (TX5 k).2.2.1 = some (tyX5 k) := by decide +kernel
abbrev cX5_init : ByteArray := prog_7_method_1_code
def yX5_init : MethodName := ⟨RX5, "<init>", "(III)V"⟩
abbrev cX5_canTake : ByteArray := prog_7_method_2_code
def yX5_canTake : MethodName := ⟨RX5, "canTake", "(I)Z"⟩
def RX6 : String := "KindergartenPlanner"
def TX6 : u_T := fun k => match k with
  | 0 => ("KindergartenPlanner", "children", "[LKindergartenPlanner$Child;", true)
  | 1 => ("KindergartenPlanner", "educators", "[LKindergartenPlanner$Educator;", true)
  | 2 => ("KindergartenPlanner", "ratios", "[I", true)
  | 3 => ("KindergartenPlanner", "rates", "[I", true)
  | 4 => ("KindergartenPlanner", "roomLimit", "I", false)
  | 5 => ("KindergartenPlanner", "month", "I", false)
  | 6 => ("KindergartenPlanner", "keptCover", "[I", true)
  | 7 => ("KindergartenPlanner", "sheet", "LKindergartenPlanner$Sheet;", true)
  | 8 => ("KindergartenPlanner", "search", "LKindergartenPlanner$CoverSearch;", true)
  | 9 => ("KindergartenPlanner", "heads", "LKindergartenPlanner$Headcount;", true)
  | 10 => ("KindergartenPlanner", "priorities", "[I", true)
  | _ => ("KindergartenPlanner", "needs", "[I", true)
def tyX6 : Nat → FieldType := fun k => match k with
  | 0 => .array (.object "KindergartenPlanner$Child")
  | 1 => .array (.object "KindergartenPlanner$Educator")
  | 2 => .array .int
  | 3 => .array .int
  | 4 => .int
  | 5 => .int
  | 6 => .array .int
  | 7 => .object "KindergartenPlanner$Sheet"
  | 8 => .object "KindergartenPlanner$CoverSearch"
  | 9 => .object "KindergartenPlanner$Headcount"
  | 10 => .array .int
  | _ => .array .int
abbrev wsX60 : List Cond := u_ws RX6 TX6 12
theorem nmX6 : ∀ a, a < 12 → ∀ b, b < 12 → a ≠ b → (TX6 a).2.1 ≠ (TX6 b).2.1 := by decide +kernel
theorem tyX6_ok : ∀ k, k < 12 → parseFieldDescriptor (TX6 k).2.2.1 = some (tyX6 k) := by decide +kernel
abbrev cX6_init : ByteArray := prog_1_method_1_code
def yX6_init : MethodName := ⟨RX6, "<init>", "()V"⟩
abbrev cX6_addChild : ByteArray := prog_1_method_2_code
def yX6_addChild : MethodName := ⟨RX6, "addChild", "(II)I"⟩
abbrev cX6_removeChild : ByteArray := prog_1_method_3_code
def yX6_removeChild : MethodName := ⟨RX6, "removeChild", "(I)I"⟩
abbrev cX6_children : ByteArray := prog_1_method_4_code
def yX6_children : MethodName := ⟨RX6, "children", "()I"⟩
abbrev cX6_age : ByteArray := prog_1_method_5_code
def yX6_age : MethodName := ⟨RX6, "age", "(I)I"⟩
abbrev cX6_isAdmitted : ByteArray := prog_1_method_6_code
def yX6_isAdmitted : MethodName := ⟨RX6, "isAdmitted", "(I)I"⟩
abbrev cX6_hours : ByteArray := prog_1_method_7_code
def yX6_hours : MethodName := ⟨RX6, "hours", "(I)I"⟩
abbrev cX6_book : ByteArray := prog_1_method_8_code
def yX6_book : MethodName := ⟨RX6, "book", "(IIII)I"⟩
abbrev cX6_nextMonth : ByteArray := prog_1_method_9_code
def yX6_nextMonth : MethodName := ⟨RX6, "nextMonth", "()I"⟩
abbrev cX6_childAt : ByteArray := prog_1_method_10_code
def yX6_childAt : MethodName := ⟨RX6, "childAt", "(I)LKindergartenPlanner$Child;"⟩
abbrev cX6_rebook : ByteArray := prog_1_method_11_code
def yX6_rebook : MethodName := ⟨RX6, "rebook", "(LKindergartenPlanner$Child;J)I"⟩
abbrev cX6_waited : ByteArray := prog_1_method_12_code
def yX6_waited : MethodName := ⟨RX6, "waited", "(I)I"⟩
abbrev cX6_points : ByteArray := prog_1_method_13_code
def yX6_points : MethodName := ⟨RX6, "points", "(I)I"⟩
abbrev cX6_waiting : ByteArray := prog_1_method_14_code
def yX6_waiting : MethodName := ⟨RX6, "waiting", "(I)I"⟩
abbrev cX6_admit : ByteArray := prog_1_method_15_code
def yX6_admit : MethodName := ⟨RX6, (lw_meth (tables_1_2[52]?)).name, "()I"⟩
abbrev cX6_release : ByteArray := prog_1_method_16_code
def yX6_release : MethodName := ⟨RX6, "release", "(I)I"⟩
abbrev cX6_pointsOf : ByteArray := prog_1_method_17_code
def yX6_pointsOf : MethodName := ⟨RX6, "pointsOf", "(LKindergartenPlanner$Child;)I"⟩
abbrev cX6_hasAdmittedChild : ByteArray := prog_1_method_18_code
def yX6_hasAdmittedChild : MethodName := ⟨RX6, "hasAdmittedChild", "(I)Z"⟩
abbrev cX6_notePriorities : ByteArray := prog_1_method_19_code
def yX6_notePriorities : MethodName := ⟨RX6, "notePriorities", "()V"⟩
abbrev cX6_priorityOf : ByteArray := prog_1_method_20_code
def yX6_priorityOf : MethodName := ⟨RX6, "priorityOf", "(LKindergartenPlanner$Child;I)I"⟩
abbrev cX6_countAbove : ByteArray := prog_1_method_21_code
def yX6_countAbove : MethodName := ⟨RX6, "countAbove", "(I)I"⟩
abbrev cX6_firstThatCanBeAdmitted : ByteArray := prog_1_method_22_code
def yX6_firstThatCanBeAdmitted : MethodName := ⟨RX6, "firstThatCanBeAdmitted", "()LKindergartenPlanner$Child;"⟩
abbrev cX6_canBeAdmitted : ByteArray := prog_1_method_23_code
def yX6_canBeAdmitted : MethodName := ⟨RX6, "canBeAdmitted", "(LKindergartenPlanner$Child;)Z"⟩
abbrev cX6_addEducator : ByteArray := prog_1_method_24_code
def yX6_addEducator : MethodName := ⟨RX6, "addEducator", "()I"⟩
abbrev cX6_removeEducator : ByteArray := prog_1_method_25_code
def yX6_removeEducator : MethodName := ⟨RX6, "removeEducator", "(I)I"⟩
abbrev cX6_educators : ByteArray := prog_1_method_26_code
def yX6_educators : MethodName := ⟨RX6, "educators", "()I"⟩
abbrev cX6_work : ByteArray := prog_1_method_27_code
def yX6_work : MethodName := ⟨RX6, "work", "(IIII)I"⟩
abbrev cX6_setHoliday : ByteArray := prog_1_method_28_code
def yX6_setHoliday : MethodName := ⟨RX6, "setHoliday", "(IIZ)I"⟩
abbrev cX6_setRatio : ByteArray := prog_1_method_29_code
def yX6_setRatio : MethodName := ⟨RX6, "setRatio", "(II)I"⟩
abbrev cX6_setRoomLimit : ByteArray := prog_1_method_30_code
def yX6_setRoomLimit : MethodName := ⟨RX6, "setRoomLimit", "(I)I"⟩
abbrev cX6_educatorAt : ByteArray := prog_1_method_31_code
def yX6_educatorAt : MethodName := ⟨RX6, "educatorAt", "(I)LKindergartenPlanner$Educator;"⟩
abbrev cX6_present : ByteArray := prog_1_method_32_code
def yX6_present : MethodName := ⟨RX6, "present", "(II)I"⟩
abbrev cX6_need : ByteArray := prog_1_method_33_code
def yX6_need : MethodName := ⟨RX6, "need", "(II)I"⟩
abbrev cX6_staff : ByteArray := prog_1_method_34_code
def yX6_staff : MethodName := ⟨RX6, "staff", "(II)I"⟩
abbrev cX6_unsafeHours : ByteArray := prog_1_method_35_code
def yX6_unsafeHours : MethodName := ⟨RX6, "unsafeHours", "()I"⟩
abbrev cX6_load : ByteArray := prog_1_method_36_code
def yX6_load : MethodName := ⟨RX6, "load", "(I)D"⟩
abbrev cX6_countHeads : ByteArray := prog_1_method_37_code
def yX6_countHeads : MethodName := ⟨RX6, "countHeads", "(I)V"⟩
abbrev cX6_needIn : ByteArray := prog_1_method_38_code
def yX6_needIn : MethodName := ⟨RX6, "needIn", "(I)I"⟩
abbrev cX6_staffIn : ByteArray := prog_1_method_39_code
def yX6_staffIn : MethodName := ⟨RX6, "staffIn", "(I)I"⟩
abbrev cX6_areHeadsSafe : ByteArray := prog_1_method_40_code
def yX6_areHeadsSafe : MethodName := ⟨RX6, "areHeadsSafe", "(I)Z"⟩
abbrev cX6_areSafeWith : ByteArray := prog_1_method_41_code
def yX6_areSafeWith : MethodName := ⟨RX6, "areSafeWith", "(JLKindergartenPlanner$Child;)Z"⟩
abbrev cX6_setRate : ByteArray := prog_1_method_42_code
def yX6_setRate : MethodName := ⟨RX6, "setRate", "(II)I"⟩
abbrev cX6_fee : ByteArray := prog_1_method_43_code
def yX6_fee : MethodName := ⟨RX6, "fee", "(I)I"⟩
abbrev cX6_income : ByteArray := prog_1_method_44_code
def yX6_income : MethodName := ⟨RX6, "income", "()I"⟩
abbrev cX6_familyFeeIfAdmitted : ByteArray := prog_1_method_45_code
def yX6_familyFeeIfAdmitted : MethodName := ⟨RX6, "familyFeeIfAdmitted", "(I)I"⟩
abbrev cX6_familyFee : ByteArray := prog_1_method_46_code
def yX6_familyFee : MethodName := ⟨RX6, "familyFee", "(II)I"⟩
abbrev cX6_pays : ByteArray := prog_1_method_47_code
def yX6_pays : MethodName := ⟨RX6, "pays", "(LKindergartenPlanner$Child;II)Z"⟩
abbrev cX6_feeOf : ByteArray := prog_1_method_48_code
def yX6_feeOf : MethodName := ⟨RX6, "feeOf", "(LKindergartenPlanner$Child;II)I"⟩
abbrev cX6_percentageOf : ByteArray := prog_1_method_49_code
def yX6_percentageOf : MethodName := ⟨RX6, "percentageOf", "(LKindergartenPlanner$Child;II)I"⟩
abbrev cX6_rankOf : ByteArray := prog_1_method_50_code
def yX6_rankOf : MethodName := ⟨RX6, "rankOf", "(LKindergartenPlanner$Child;II)I"⟩
abbrev cX6_addSubstitute : ByteArray := prog_1_method_51_code
def yX6_addSubstitute : MethodName := ⟨RX6, "addSubstitute", "(III)I"⟩
abbrev cX6_shortage : ByteArray := prog_1_method_52_code
def yX6_shortage : MethodName := ⟨RX6, "shortage", "(II)I"⟩
abbrev cX6_cover : ByteArray := prog_1_method_53_code
def yX6_cover : MethodName := ⟨RX6, "cover", "(I)I"⟩
abbrev cX6_coverOf : ByteArray := prog_1_method_54_code
def yX6_coverOf : MethodName := ⟨RX6, "coverOf", "(I)I"⟩
abbrev cX6_cheapestHoliday : ByteArray := prog_1_method_55_code
def yX6_cheapestHoliday : MethodName := ⟨RX6, "cheapestHoliday", "(I)I"⟩
abbrev cX6_noteNeeds : ByteArray := prog_1_method_56_code
def yX6_noteNeeds : MethodName := ⟨RX6, "noteNeeds", "()V"⟩
abbrev cX6_shortageOf : ByteArray := prog_1_method_57_code
def yX6_shortageOf : MethodName := ⟨RX6, "shortageOf", "(III)I"⟩
abbrev cX6_staffLeft : ByteArray := prog_1_method_58_code
def yX6_staffLeft : MethodName := ⟨RX6, "staffLeft", "(III)I"⟩
abbrev cX6_leastCostBelow : ByteArray := prog_1_method_59_code
def yX6_leastCostBelow : MethodName := ⟨RX6, "leastCostBelow", "(III)I"⟩
abbrev cX6_type : ByteArray := prog_1_method_60_code
def yX6_type : MethodName := ⟨RX6, "type", "(I)I"⟩
abbrev cX6_clearText : ByteArray := prog_1_method_61_code
def yX6_clearText : MethodName := ⟨RX6, "clearText", "()I"⟩
abbrev cX6_loadBookings : ByteArray := prog_1_method_62_code
def yX6_loadBookings : MethodName := ⟨RX6, "loadBookings", "(I)I"⟩
abbrev cX6_digest : ByteArray := prog_1_method_63_code
def yX6_digest : MethodName := ⟨RX6, "digest", "()J"⟩
abbrev cX6_mixChildren : ByteArray := prog_1_method_64_code
def yX6_mixChildren : MethodName := ⟨RX6, "mixChildren", "(J)J"⟩
abbrev cX6_mixHours : ByteArray := prog_1_method_65_code
def yX6_mixHours : MethodName := ⟨RX6, "mixHours", "(J)J"⟩
abbrev cX6_mix : ByteArray := prog_1_method_66_code
def yX6_mix : MethodName := ⟨RX6, "mix", "(JI)J"⟩
abbrev cX6_isDay : ByteArray := prog_1_method_67_code
def yX6_isDay : MethodName := ⟨RX6, "isDay", "(I)Z"⟩
abbrev cX6_isHour : ByteArray := prog_1_method_68_code
def yX6_isHour : MethodName := ⟨RX6, "isHour", "(I)Z"⟩
abbrev cX6_isWeek : ByteArray := prog_1_method_69_code
def yX6_isWeek : MethodName := ⟨RX6, "isWeek", "(I)Z"⟩
abbrev cX6_isGroup : ByteArray := prog_1_method_70_code
def yX6_isGroup : MethodName := ⟨RX6, "isGroup", "(I)Z"⟩
abbrev cX6_isSpan : ByteArray := prog_1_method_71_code
def yX6_isSpan : MethodName := ⟨RX6, "isSpan", "(II)Z"⟩
abbrev cX6_hourOfWeek : ByteArray := prog_1_method_72_code
def yX6_hourOfWeek : MethodName := ⟨RX6, "hourOfWeek", "(II)I"⟩
abbrev cX6_hasHour : ByteArray := prog_1_method_73_code
def yX6_hasHour : MethodName := ⟨RX6, "hasHour", "(JI)Z"⟩
abbrev cX6_spanOf : ByteArray := prog_1_method_74_code
def yX6_spanOf : MethodName := ⟨RX6, "spanOf", "(III)J"⟩
abbrev cX6_withSpan : ByteArray := prog_1_method_75_code
def yX6_withSpan : MethodName := ⟨RX6, "withSpan", "(JIII)J"⟩
def RX7 : String := "KindergartenPlannerModel"
def TX7 : u_T := fun k => match k with
  | 0 => ("KindergartenPlannerModel", "month", "I", false)
  | 1 => ("KindergartenPlannerModel", "isChild", "[I", true)
  | 2 => ("KindergartenPlannerModel", "ageOf", "[I", true)
  | 3 => ("KindergartenPlannerModel", "family", "[I", true)
  | 4 => ("KindergartenPlannerModel", "admitted", "[I", true)
  | 5 => ("KindergartenPlannerModel", "months", "[I", true)
  | 6 => ("KindergartenPlannerModel", "begins", "[I", true)
  | 7 => ("KindergartenPlannerModel", "ends", "[I", true)
  | 8 => ("KindergartenPlannerModel", "isEducator", "[I", true)
  | 9 => ("KindergartenPlannerModel", "workBegins", "[I", true)
  | 10 => ("KindergartenPlannerModel", "workEnds", "[I", true)
  | 11 => ("KindergartenPlannerModel", "holidays", "[I", true)
  | 12 => ("KindergartenPlannerModel", "ratios", "[I", true)
  | 13 => ("KindergartenPlannerModel", "rates", "[I", true)
  | 14 => ("KindergartenPlannerModel", "roomLimit", "I", false)
  | 15 => ("KindergartenPlannerModel", "substitutes", "I", false)
  | 16 => ("KindergartenPlannerModel", "available", "[I", true)
  | 17 => ("KindergartenPlannerModel", "mostDays", "[I", true)
  | 18 => ("KindergartenPlannerModel", "wages", "[I", true)
  | 19 => ("KindergartenPlannerModel", "kept", "[I", true)
  | 20 => ("KindergartenPlannerModel", "text", "[I", true)
  | 21 => ("KindergartenPlannerModel", "textLength", "I", false)
  | 22 => ("KindergartenPlannerModel", "readBegins", "[I", true)
  | 23 => ("KindergartenPlannerModel", "readEnds", "[I", true)
  | _ => ("KindergartenPlannerModel", "costs", "[I", true)
def tyX7 : Nat → FieldType := fun k => match k with
  | 0 => .int
  | 1 => .array .int
  | 2 => .array .int
  | 3 => .array .int
  | 4 => .array .int
  | 5 => .array .int
  | 6 => .array .int
  | 7 => .array .int
  | 8 => .array .int
  | 9 => .array .int
  | 10 => .array .int
  | 11 => .array .int
  | 12 => .array .int
  | 13 => .array .int
  | 14 => .int
  | 15 => .int
  | 16 => .array .int
  | 17 => .array .int
  | 18 => .array .int
  | 19 => .array .int
  | 20 => .array .int
  | 21 => .int
  | 22 => .array .int
  | 23 => .array .int
  | _ => .array .int
abbrev wsX70 : List Cond := u_ws RX7 TX7 25
theorem nmX7 : ∀ a, a < 25 → ∀ b, b < 25 → a ≠ b → (TX7 a).2.1 ≠ (TX7 b).2.1 := by decide +kernel
theorem tyX7_ok : ∀ k, k < 25 → parseFieldDescriptor (TX7 k).2.2.1 = some (tyX7 k) := by decide +kernel
abbrev cX7_init : ByteArray := prog_9_method_1_code
def yX7_init : MethodName := ⟨RX7, "<init>", "()V"⟩
abbrev cX7_within : ByteArray := prog_9_method_3_code
def yX7_within : MethodName := ⟨RX7, "within", "(III)Z"⟩
abbrev cX7_isDay : ByteArray := prog_9_method_4_code
def yX7_isDay : MethodName := ⟨RX7, "isDay", "(I)Z"⟩
abbrev cX7_isSpan : ByteArray := prog_9_method_5_code
def yX7_isSpan : MethodName := ⟨RX7, "isSpan", "(II)Z"⟩
abbrev cX7_hasChild : ByteArray := prog_9_method_6_code
def yX7_hasChild : MethodName := ⟨RX7, "hasChild", "(I)Z"⟩
abbrev cX7_isIn : ByteArray := prog_9_method_7_code
def yX7_isIn : MethodName := ⟨RX7, "isIn", "(I)Z"⟩
abbrev cX7_childMany : ByteArray := prog_9_method_8_code
def yX7_childMany : MethodName := ⟨RX7, "childMany", "()I"⟩
abbrev cX7_addChild : ByteArray := prog_9_method_9_code
def yX7_addChild : MethodName := ⟨RX7, "addChild", "(II)I"⟩
abbrev cX7_removeChild : ByteArray := prog_9_method_10_code
def yX7_removeChild : MethodName := ⟨RX7, "removeChild", "(I)I"⟩
abbrev cX7_children : ByteArray := prog_9_method_11_code
def yX7_children : MethodName := ⟨RX7, "children", "()I"⟩
abbrev cX7_age : ByteArray := prog_9_method_12_code
def yX7_age : MethodName := ⟨RX7, "age", "(I)I"⟩
abbrev cX7_isAdmitted : ByteArray := prog_9_method_13_code
def yX7_isAdmitted : MethodName := ⟨RX7, "isAdmitted", "(I)I"⟩
abbrev cX7_hoursOf : ByteArray := prog_9_method_14_code
def yX7_hoursOf : MethodName := ⟨RX7, "hoursOf", "(I)I"⟩
abbrev cX7_hours : ByteArray := prog_9_method_15_code
def yX7_hours : MethodName := ⟨RX7, "hours", "(I)I"⟩
abbrev cX7_isBooked : ByteArray := prog_9_method_16_code
def yX7_isBooked : MethodName := ⟨RX7, "isBooked", "(III)Z"⟩
abbrev cX7_ageGroup : ByteArray := prog_9_method_17_code
def yX7_ageGroup : MethodName := ⟨RX7, "ageGroup", "(I)I"⟩
abbrev cX7_presentOf : ByteArray := prog_9_method_18_code
def yX7_presentOf : MethodName := ⟨RX7, "presentOf", "(III)I"⟩
abbrev cX7_needOf : ByteArray := prog_9_method_19_code
def yX7_needOf : MethodName := ⟨RX7, "needOf", "(III)I"⟩
abbrev cX7_staffOf : ByteArray := prog_9_method_20_code
def yX7_staffOf : MethodName := ⟨RX7, "staffOf", "(II)I"⟩
abbrev cX7_isSafe : ByteArray := prog_9_method_21_code
def yX7_isSafe : MethodName := ⟨RX7, "isSafe", "(III)Z"⟩
abbrev cX7_canHave : ByteArray := prog_9_method_22_code
def yX7_canHave : MethodName := ⟨RX7, "canHave", "(IIII)Z"⟩
abbrev cX7_book : ByteArray := prog_9_method_23_code
def yX7_book : MethodName := ⟨RX7, "book", "(IIII)I"⟩
abbrev cX7_nextMonth : ByteArray := prog_9_method_24_code
def yX7_nextMonth : MethodName := ⟨RX7, "nextMonth", "()I"⟩
abbrev cX7_isWaiting : ByteArray := prog_9_method_25_code
def yX7_isWaiting : MethodName := ⟨RX7, "isWaiting", "(I)Z"⟩
abbrev cX7_waited : ByteArray := prog_9_method_26_code
def yX7_waited : MethodName := ⟨RX7, "waited", "(I)I"⟩
abbrev cX7_pointsOf : ByteArray := prog_9_method_27_code
def yX7_pointsOf : MethodName := ⟨RX7, "pointsOf", "(I)I"⟩
abbrev cX7_points : ByteArray := prog_9_method_28_code
def yX7_points : MethodName := ⟨RX7, "points", "(I)I"⟩
abbrev cX7_isBefore : ByteArray := prog_9_method_29_code
def yX7_isBefore : MethodName := ⟨RX7, "isBefore", "(II)Z"⟩
abbrev cX7_placeOf : ByteArray := prog_9_method_30_code
def yX7_placeOf : MethodName := ⟨RX7, "placeOf", "(I)I"⟩
abbrev cX7_waiting : ByteArray := prog_9_method_31_code
def yX7_waiting : MethodName := ⟨RX7, "waiting", "(I)I"⟩
abbrev cX7_canBeAdmitted : ByteArray := prog_9_method_32_code
def yX7_canBeAdmitted : MethodName := ⟨RX7, "canBeAdmitted", "(I)Z"⟩
abbrev cX7_admit : ByteArray := prog_9_method_33_code
def yX7_admit : MethodName := ⟨RX7, (lw_meth (tables_1_4[47]?)).name, "()I"⟩
abbrev cX7_release : ByteArray := prog_9_method_34_code
def yX7_release : MethodName := ⟨RX7, "release", "(I)I"⟩
abbrev cX7_hasEducator : ByteArray := prog_9_method_35_code
def yX7_hasEducator : MethodName := ⟨RX7, "hasEducator", "(I)Z"⟩
abbrev cX7_educatorMany : ByteArray := prog_9_method_36_code
def yX7_educatorMany : MethodName := ⟨RX7, "educatorMany", "()I"⟩
abbrev cX7_addEducator : ByteArray := prog_9_method_37_code
def yX7_addEducator : MethodName := ⟨RX7, "addEducator", "()I"⟩
abbrev cX7_removeEducator : ByteArray := prog_9_method_38_code
def yX7_removeEducator : MethodName := ⟨RX7, "removeEducator", "(I)I"⟩
abbrev cX7_educators : ByteArray := prog_9_method_39_code
def yX7_educators : MethodName := ⟨RX7, "educators", "()I"⟩
abbrev cX7_work : ByteArray := prog_9_method_40_code
def yX7_work : MethodName := ⟨RX7, "work", "(IIII)I"⟩
abbrev cX7_isWeek : ByteArray := prog_9_method_41_code
def yX7_isWeek : MethodName := ⟨RX7, "isWeek", "(I)Z"⟩
abbrev cX7_setHoliday : ByteArray := prog_9_method_42_code
def yX7_setHoliday : MethodName := ⟨RX7, "setHoliday", "(IIZ)I"⟩
abbrev cX7_isAgeGroup : ByteArray := prog_9_method_43_code
def yX7_isAgeGroup : MethodName := ⟨RX7, "isAgeGroup", "(I)Z"⟩
abbrev cX7_setRatio : ByteArray := prog_9_method_44_code
def yX7_setRatio : MethodName := ⟨RX7, "setRatio", "(II)I"⟩
abbrev cX7_setRoomLimit : ByteArray := prog_9_method_45_code
def yX7_setRoomLimit : MethodName := ⟨RX7, "setRoomLimit", "(I)I"⟩
abbrev cX7_isHour : ByteArray := prog_9_method_46_code
def yX7_isHour : MethodName := ⟨RX7, "isHour", "(II)Z"⟩
abbrev cX7_present : ByteArray := prog_9_method_47_code
def yX7_present : MethodName := ⟨RX7, "present", "(II)I"⟩
abbrev cX7_need : ByteArray := prog_9_method_48_code
def yX7_need : MethodName := ⟨RX7, "need", "(II)I"⟩
abbrev cX7_staff : ByteArray := prog_9_method_49_code
def yX7_staff : MethodName := ⟨RX7, "staff", "(II)I"⟩
abbrev cX7_unsafeMany : ByteArray := prog_9_method_50_code
def yX7_unsafeMany : MethodName := ⟨RX7, "unsafeMany", "()I"⟩
abbrev cX7_unsafeHours : ByteArray := prog_9_method_51_code
def yX7_unsafeHours : MethodName := ⟨RX7, "unsafeHours", "()I"⟩
abbrev cX7_load : ByteArray := prog_9_method_52_code
def yX7_load : MethodName := ⟨RX7, "load", "(I)D"⟩
abbrev cX7_setRate : ByteArray := prog_9_method_53_code
def yX7_setRate : MethodName := ⟨RX7, "setRate", "(II)I"⟩
abbrev cX7_feeOf : ByteArray := prog_9_method_54_code
def yX7_feeOf : MethodName := ⟨RX7, "feeOf", "(I)I"⟩
abbrev cX7_fee : ByteArray := prog_9_method_55_code
def yX7_fee : MethodName := ⟨RX7, "fee", "(I)I"⟩
abbrev cX7_feesOf : ByteArray := prog_9_method_56_code
def yX7_feesOf : MethodName := ⟨RX7, "feesOf", "(I)I"⟩
abbrev cX7_income : ByteArray := prog_9_method_57_code
def yX7_income : MethodName := ⟨RX7, "income", "()I"⟩
abbrev cX7_familyFeeIfAdmitted : ByteArray := prog_9_method_58_code
def yX7_familyFeeIfAdmitted : MethodName := ⟨RX7, "familyFeeIfAdmitted", "(I)I"⟩
abbrev cX7_addSubstitute : ByteArray := prog_9_method_59_code
def yX7_addSubstitute : MethodName := ⟨RX7, "addSubstitute", "(III)I"⟩
abbrev cX7_shortageOf : ByteArray := prog_9_method_60_code
def yX7_shortageOf : MethodName := ⟨RX7, "shortageOf", "(II)I"⟩
abbrev cX7_shortage : ByteArray := prog_9_method_61_code
def yX7_shortage : MethodName := ⟨RX7, "shortage", "(II)I"⟩
abbrev cX7_power : ByteArray := prog_9_method_62_code
def yX7_power : MethodName := ⟨RX7, "power", "(I)I"⟩
abbrev cX7_canBeGiven : ByteArray := prog_9_method_63_code
def yX7_canBeGiven : MethodName := ⟨RX7, "canBeGiven", "(IIII)Z"⟩
abbrev cX7_costWith : ByteArray := prog_9_method_64_code
def yX7_costWith : MethodName := ⟨RX7, "costWith", "(III)I"⟩
abbrev cX7_findCosts : ByteArray := prog_9_method_65_code
def yX7_findCosts : MethodName := ⟨RX7, "findCosts", "(I)I"⟩
abbrev cX7_cover : ByteArray := prog_9_method_66_code
def yX7_cover : MethodName := ⟨RX7, "cover", "(I)I"⟩
abbrev cX7_coverOf : ByteArray := prog_9_method_67_code
def yX7_coverOf : MethodName := ⟨RX7, "coverOf", "(I)I"⟩
abbrev cX7_cheapestHoliday : ByteArray := prog_9_method_68_code
def yX7_cheapestHoliday : MethodName := ⟨RX7, "cheapestHoliday", "(I)I"⟩
abbrev cX7_type : ByteArray := prog_9_method_69_code
def yX7_type : MethodName := ⟨RX7, "type", "(I)I"⟩
abbrev cX7_clearText : ByteArray := prog_9_method_70_code
def yX7_clearText : MethodName := ⟨RX7, "clearText", "()I"⟩
abbrev cX7_character : ByteArray := prog_9_method_71_code
def yX7_character : MethodName := ⟨RX7, "character", "(II)I"⟩
abbrev cX7_readText : ByteArray := prog_9_method_72_code
def yX7_readText : MethodName := ⟨RX7, "readText", "()I"⟩
abbrev cX7_loadBookings : ByteArray := prog_9_method_73_code
def yX7_loadBookings : MethodName := ⟨RX7, "loadBookings", "(I)I"⟩
abbrev cX7_digest : ByteArray := prog_9_method_74_code
def yX7_digest : MethodName := ⟨RX7, "digest", "()J"⟩
def RJ6 : String := "java/lang/Integer"
def TJ6 : u_T := fun k => match k with
  | _ => ("", "", "", false)
def tyJ6 : Nat → FieldType := fun k => match k with
  | _ => .int
abbrev wsJ60 : List Cond := u_ws RJ6 TJ6 0
theorem nmJ6 : ∀ a, a < 0 → ∀ b, b < 0 → a ≠ b → (TJ6 a).2.1 ≠ (TJ6 b).2.1 := by decide +kernel
theorem tyJ6_ok : ∀ k, k < 0 → parseFieldDescriptor (TJ6 k).2.2.1 = some (tyJ6 k) := by decide +kernel
abbrev cJ6_bitCount_0f7a4 : ByteArray := prog_10_method_49_code
def yJ6_bitCount_0f7a4 : MethodName := ⟨RJ6, "bitCount", "(I)I"⟩
def RJ13 : String := "java/lang/Long"
def TJ13 : u_T := fun k => match k with
  | _ => ("", "", "", false)
def tyJ13 : Nat → FieldType := fun k => match k with
  | _ => .int
abbrev wsJ130 : List Cond := u_ws RJ13 TJ13 0
theorem nmJ13 : ∀ a, a < 0 → ∀ b, b < 0 → a ≠ b → (TJ13 a).2.1 ≠ (TJ13 b).2.1 := by decide +kernel
theorem tyJ13_ok : ∀ k, k < 0 → parseFieldDescriptor (TJ13 k).2.2.1 = some (tyJ13 k) := by decide +kernel
abbrev cJ13_bitCount_95d88 : ByteArray := prog_11_method_50_code
def yJ13_bitCount_95d88 : MethodName := ⟨RJ13, "bitCount", "(J)I"⟩
def RJ9 : String := "java/lang/Math"
def TJ9 : u_T := fun k => match k with
  | _ => ("", "", "", false)
def tyJ9 : Nat → FieldType := fun k => match k with
  | _ => .int
abbrev wsJ90 : List Cond := u_ws RJ9 TJ9 0
theorem nmJ9 : ∀ a, a < 0 → ∀ b, b < 0 → a ≠ b → (TJ9 a).2.1 ≠ (TJ9 b).2.1 := by decide +kernel
theorem tyJ9_ok : ∀ k, k < 0 → parseFieldDescriptor (TJ9 k).2.2.1 = some (tyJ9 k) := by decide +kernel
abbrev cJ9_max_7cf53 : ByteArray := prog_12_method_65_code
def yJ9_max_7cf53 : MethodName := ⟨RJ9, "max", "(II)I"⟩
def RL : String := "KindergartenPlannerLaw"
abbrev cL_law : ByteArray := code
def yL_law : MethodName := ⟨RL, "law", "([I)Z"⟩
theorem dX0_init_0 : decode cX0_init 0 = .ok (.aload_n 0, 1) := by decide +kernel
theorem dX0_init_1 : decode cX0_init 1 = .ok (.invokespecial 1, 3) := by decide +kernel
theorem dX0_init_4 : decode cX0_init 4 = .ok (.aload_n 0, 1) := by decide +kernel
theorem dX0_init_5 : decode cX0_init 5 = .ok (.iload_n 1, 1) := by decide +kernel
theorem dX0_init_6 : decode cX0_init 6 = .ok (.putfield 7, 3) := by decide +kernel
theorem dX0_init_9 : decode cX0_init 9 = .ok (.aload_n 0, 1) := by decide +kernel
theorem dX0_init_10 : decode cX0_init 10 = .ok (.iload_n 2, 1) := by decide +kernel
theorem dX0_init_11 : decode cX0_init 11 = .ok (.putfield 13, 3) := by decide +kernel
theorem dX0_init_14 : decode cX0_init 14 = .ok (.return_, 1) := by decide +kernel
theorem dX0_bookedHours_0 : decode cX0_bookedHours 0 = .ok (.aload_n 0, 1) := by decide +kernel
theorem dX0_bookedHours_1 : decode cX0_bookedHours 1 = .ok (.getfield 16, 3) := by decide +kernel
theorem dX0_bookedHours_4 : decode cX0_bookedHours 4 = .ok (.invokestatic 20, 3) := by decide +kernel
theorem dX0_bookedHours_7 : decode cX0_bookedHours 7 = .ok (.ireturn, 1) := by decide +kernel
theorem dX0_group_0 : decode cX0_group 0 = .ok (.aload_n 0, 1) := by decide +kernel
theorem dX0_group_1 : decode cX0_group 1 = .ok (.getfield 7, 3) := by decide +kernel
theorem dX0_group_4 : decode cX0_group 4 = .ok (.bipush 24, 2) := by decide +kernel
theorem dX0_group_6 : decode cX0_group 6 = .ok (.if_icmp .ge 5, 3) := by decide +kernel
theorem dX0_group_9 : decode cX0_group 9 = .ok (.iconst 0, 1) := by decide +kernel
theorem dX0_group_10 : decode cX0_group 10 = .ok (.ireturn, 1) := by decide +kernel
theorem dX0_group_11 : decode cX0_group 11 = .ok (.aload_n 0, 1) := by decide +kernel
theorem dX0_group_12 : decode cX0_group 12 = .ok (.getfield 7, 3) := by decide +kernel
theorem dX0_group_15 : decode cX0_group 15 = .ok (.bipush 36, 2) := by decide +kernel
theorem dX0_group_17 : decode cX0_group 17 = .ok (.if_icmp .ge 7, 3) := by decide +kernel
theorem dX0_group_20 : decode cX0_group 20 = .ok (.iconst 1, 1) := by decide +kernel
theorem dX0_group_21 : decode cX0_group 21 = .ok (.goto 4, 3) := by decide +kernel
theorem dX0_group_24 : decode cX0_group 24 = .ok (.iconst 2, 1) := by decide +kernel
theorem dX0_group_25 : decode cX0_group 25 = .ok (.ireturn, 1) := by decide +kernel
theorem dX0_growOlder_0 : decode cX0_growOlder 0 = .ok (.aload_n 0, 1) := by decide +kernel
theorem dX0_growOlder_1 : decode cX0_growOlder 1 = .ok (.dup, 1) := by decide +kernel
theorem dX0_growOlder_2 : decode cX0_growOlder 2 = .ok (.getfield 7, 3) := by decide +kernel
theorem dX0_growOlder_5 : decode cX0_growOlder 5 = .ok (.iconst 1, 1) := by decide +kernel
theorem dX0_growOlder_6 : decode cX0_growOlder 6 = .ok (.iadd, 1) := by decide +kernel
theorem dX0_growOlder_7 : decode cX0_growOlder 7 = .ok (.putfield 7, 3) := by decide +kernel
theorem dX0_growOlder_10 : decode cX0_growOlder 10 = .ok (.aload_n 0, 1) := by decide +kernel
theorem dX0_growOlder_11 : decode cX0_growOlder 11 = .ok (.getfield 26, 3) := by decide +kernel
theorem dX0_growOlder_14 : decode cX0_growOlder 14 = .ok (.ifCond .ne 13, 3) := by decide +kernel
theorem dX0_growOlder_17 : decode cX0_growOlder 17 = .ok (.aload_n 0, 1) := by decide +kernel
theorem dX0_growOlder_18 : decode cX0_growOlder 18 = .ok (.dup, 1) := by decide +kernel
theorem dX0_growOlder_19 : decode cX0_growOlder 19 = .ok (.getfield 30, 3) := by decide +kernel
theorem dX0_growOlder_22 : decode cX0_growOlder 22 = .ok (.iconst 1, 1) := by decide +kernel
theorem dX0_growOlder_23 : decode cX0_growOlder 23 = .ok (.iadd, 1) := by decide +kernel
theorem dX0_growOlder_24 : decode cX0_growOlder 24 = .ok (.putfield 30, 3) := by decide +kernel
theorem dX0_growOlder_27 : decode cX0_growOlder 27 = .ok (.return_, 1) := by decide +kernel
theorem dX1_init_0 : decode cX1_init 0 = .ok (.aload_n 0, 1) := by decide +kernel
theorem dX1_init_1 : decode cX1_init 1 = .ok (.invokespecial 3, 3) := by decide +kernel
theorem dX1_init_4 : decode cX1_init 4 = .ok (.aload_n 0, 1) := by decide +kernel
theorem dX1_init_5 : decode cX1_init 5 = .ok (.iconst 4, 1) := by decide +kernel
theorem dX1_init_6 : decode cX1_init 6 = .ok (.anewarray 9, 3) := by decide +kernel
theorem dX1_init_9 : decode cX1_init 9 = .ok (.putfield 11, 3) := by decide +kernel
theorem dX1_init_12 : decode cX1_init 12 = .ok (.aload_n 0, 1) := by decide +kernel
theorem dX1_init_13 : decode cX1_init 13 = .ok (.iconst 5, 1) := by decide +kernel
theorem dX1_init_14 : decode cX1_init 14 = .ok (.newarray .int, 2) := by decide +kernel
theorem dX1_init_16 : decode cX1_init 16 = .ok (.putfield 17, 3) := by decide +kernel
theorem dX1_init_19 : decode cX1_init 19 = .ok (.aload_n 0, 1) := by decide +kernel
theorem dX1_init_20 : decode cX1_init 20 = .ok (.iconst 5, 1) := by decide +kernel
theorem dX1_init_21 : decode cX1_init 21 = .ok (.newarray .int, 2) := by decide +kernel
theorem dX1_init_23 : decode cX1_init 23 = .ok (.putfield 21, 3) := by decide +kernel
theorem dX1_init_26 : decode cX1_init 26 = .ok (.aload_n 0, 1) := by decide +kernel
theorem dX1_init_27 : decode cX1_init 27 = .ok (.iconst 5, 1) := by decide +kernel
theorem dX1_init_28 : decode cX1_init 28 = .ok (.newarray .int, 2) := by decide +kernel
theorem dX1_init_30 : decode cX1_init 30 = .ok (.putfield 24, 3) := by decide +kernel
theorem dX1_init_33 : decode cX1_init 33 = .ok (.return_, 1) := by decide +kernel
theorem dX1_join_0 : decode cX1_join 0 = .ok (.aload_n 0, 1) := by decide +kernel
theorem dX1_join_1 : decode cX1_join 1 = .ok (.getfield 27, 3) := by decide +kernel
theorem dX1_join_4 : decode cX1_join 4 = .ok (.aload_n 0, 1) := by decide +kernel
theorem dX1_join_5 : decode cX1_join 5 = .ok (.getfield 11, 3) := by decide +kernel
theorem dX1_join_8 : decode cX1_join 8 = .ok (.arraylength, 1) := by decide +kernel
theorem dX1_join_9 : decode cX1_join 9 = .ok (.if_icmp .lt 6, 3) := by decide +kernel
theorem dX1_join_12 : decode cX1_join 12 = .ok (.bipush (-3), 2) := by decide +kernel
theorem dX1_join_14 : decode cX1_join 14 = .ok (.ireturn, 1) := by decide +kernel
theorem dX1_join_15 : decode cX1_join 15 = .ok (.aload_n 0, 1) := by decide +kernel
theorem dX1_join_16 : decode cX1_join 16 = .ok (.getfield 11, 3) := by decide +kernel
theorem dX1_join_19 : decode cX1_join 19 = .ok (.aload_n 0, 1) := by decide +kernel
theorem dX1_join_20 : decode cX1_join 20 = .ok (.getfield 27, 3) := by decide +kernel
theorem dX1_join_23 : decode cX1_join 23 = .ok (.new 9, 3) := by decide +kernel
theorem dX1_join_26 : decode cX1_join 26 = .ok (.dup, 1) := by decide +kernel
theorem dX1_join_27 : decode cX1_join 27 = .ok (.iload_n 1, 1) := by decide +kernel
theorem dX1_join_28 : decode cX1_join 28 = .ok (.iload_n 2, 1) := by decide +kernel
theorem dX1_join_29 : decode cX1_join 29 = .ok (.iload_n 3, 1) := by decide +kernel
theorem dX1_join_30 : decode cX1_join 30 = .ok (.invokespecial 31, 3) := by decide +kernel
theorem dX1_join_33 : decode cX1_join 33 = .ok (.aastore, 1) := by decide +kernel
theorem dX1_join_34 : decode cX1_join 34 = .ok (.aload_n 0, 1) := by decide +kernel
theorem dX1_join_35 : decode cX1_join 35 = .ok (.dup, 1) := by decide +kernel
theorem dX1_join_36 : decode cX1_join 36 = .ok (.getfield 27, 3) := by decide +kernel
theorem dX1_join_39 : decode cX1_join 39 = .ok (.iconst 1, 1) := by decide +kernel
theorem dX1_join_40 : decode cX1_join 40 = .ok (.iadd, 1) := by decide +kernel
theorem dX1_join_41 : decode cX1_join 41 = .ok (.putfield 27, 3) := by decide +kernel
theorem dX1_join_44 : decode cX1_join 44 = .ok (.aload_n 0, 1) := by decide +kernel
theorem dX1_join_45 : decode cX1_join 45 = .ok (.getfield 27, 3) := by decide +kernel
theorem dX1_join_48 : decode cX1_join 48 = .ok (.iconst 1, 1) := by decide +kernel
theorem dX1_join_49 : decode cX1_join 49 = .ok (.isub, 1) := by decide +kernel
theorem dX1_join_50 : decode cX1_join 50 = .ok (.ireturn, 1) := by decide +kernel
theorem dX1_leastCostBelow_0 : decode cX1_leastCostBelow 0 = .ok (.aload_n 0, 1) := by decide +kernel
theorem dX1_leastCostBelow_1 : decode cX1_leastCostBelow 1 = .ok (.iload_n 1, 1) := by decide +kernel
theorem dX1_leastCostBelow_2 : decode cX1_leastCostBelow 2 = .ok (.putfield 34, 3) := by decide +kernel
theorem dX1_leastCostBelow_5 : decode cX1_leastCostBelow 5 = .ok (.aload_n 0, 1) := by decide +kernel
theorem dX1_leastCostBelow_6 : decode cX1_leastCostBelow 6 = .ok (.iconst 0, 1) := by decide +kernel
theorem dX1_leastCostBelow_7 : decode cX1_leastCostBelow 7 = .ok (.iconst 0, 1) := by decide +kernel
theorem dX1_leastCostBelow_8 : decode cX1_leastCostBelow 8 = .ok (.invokestatic 37, 3) := by decide +kernel
theorem dX1_leastCostBelow_11 : decode cX1_leastCostBelow 11 = .ok (.aload_n 0, 1) := by decide +kernel
theorem dX1_leastCostBelow_12 : decode cX1_leastCostBelow 12 = .ok (.getfield 34, 3) := by decide +kernel
theorem dX1_leastCostBelow_15 : decode cX1_leastCostBelow 15 = .ok (.iload_n 1, 1) := by decide +kernel
theorem dX1_leastCostBelow_16 : decode cX1_leastCostBelow 16 = .ok (.if_icmp .ge 10, 3) := by decide +kernel
theorem dX1_leastCostBelow_19 : decode cX1_leastCostBelow 19 = .ok (.aload_n 0, 1) := by decide +kernel
theorem dX1_leastCostBelow_20 : decode cX1_leastCostBelow 20 = .ok (.getfield 34, 3) := by decide +kernel
theorem dX1_leastCostBelow_23 : decode cX1_leastCostBelow 23 = .ok (.goto 4, 3) := by decide +kernel
theorem dX1_leastCostBelow_26 : decode cX1_leastCostBelow 26 = .ok (.iconst (-1), 1) := by decide +kernel
theorem dX1_leastCostBelow_27 : decode cX1_leastCostBelow 27 = .ok (.ireturn, 1) := by decide +kernel
theorem dX1_coverFrom_0 : decode cX1_coverFrom 0 = .ok (.iload_n 2, 1) := by decide +kernel
theorem dX1_coverFrom_1 : decode cX1_coverFrom 1 = .ok (.aload_n 0, 1) := by decide +kernel
theorem dX1_coverFrom_2 : decode cX1_coverFrom 2 = .ok (.getfield 34, 3) := by decide +kernel
theorem dX1_coverFrom_5 : decode cX1_coverFrom 5 = .ok (.if_icmp .lt 4, 3) := by decide +kernel
theorem dX1_coverFrom_8 : decode cX1_coverFrom 8 = .ok (.return_, 1) := by decide +kernel
theorem dX1_coverFrom_9 : decode cX1_coverFrom 9 = .ok (.iload_n 1, 1) := by decide +kernel
theorem dX1_coverFrom_10 : decode cX1_coverFrom 10 = .ok (.invokestatic 41, 3) := by decide +kernel
theorem dX1_coverFrom_13 : decode cX1_coverFrom 13 = .ok (.ifCond .ne 9, 3) := by decide +kernel
theorem dX1_coverFrom_16 : decode cX1_coverFrom 16 = .ok (.aload_n 0, 1) := by decide +kernel
theorem dX1_coverFrom_17 : decode cX1_coverFrom 17 = .ok (.iload_n 2, 1) := by decide +kernel
theorem dX1_coverFrom_18 : decode cX1_coverFrom 18 = .ok (.invokevirtual 45, 3) := by decide +kernel
theorem dX1_coverFrom_21 : decode cX1_coverFrom 21 = .ok (.return_, 1) := by decide +kernel
theorem dX1_coverFrom_22 : decode cX1_coverFrom 22 = .ok (.iconst 0, 1) := by decide +kernel
theorem dX1_coverFrom_23 : decode cX1_coverFrom 23 = .ok (.istore_n 3, 1) := by decide +kernel
theorem dX1_coverFrom_24 : decode cX1_coverFrom 24 = .ok (.iload_n 3, 1) := by decide +kernel
theorem dX1_coverFrom_25 : decode cX1_coverFrom 25 = .ok (.iconst 1, 1) := by decide +kernel
theorem dX1_coverFrom_26 : decode cX1_coverFrom 26 = .ok (.aload_n 0, 1) := by decide +kernel
theorem dX1_coverFrom_27 : decode cX1_coverFrom 27 = .ok (.getfield 27, 3) := by decide +kernel
theorem dX1_coverFrom_30 : decode cX1_coverFrom 30 = .ok (.ishl, 1) := by decide +kernel
theorem dX1_coverFrom_31 : decode cX1_coverFrom 31 = .ok (.if_icmp .ge 51, 3) := by decide +kernel
theorem dX1_coverFrom_34 : decode cX1_coverFrom 34 = .ok (.aload_n 0, 1) := by decide +kernel
theorem dX1_coverFrom_35 : decode cX1_coverFrom 35 = .ok (.iload_n 1, 1) := by decide +kernel
theorem dX1_coverFrom_36 : decode cX1_coverFrom 36 = .ok (.iload_n 3, 1) := by decide +kernel
theorem dX1_coverFrom_37 : decode cX1_coverFrom 37 = .ok (.invokevirtual 49, 3) := by decide +kernel
theorem dX1_coverFrom_40 : decode cX1_coverFrom 40 = .ok (.ifCond .eq 36, 3) := by decide +kernel
theorem dX1_coverFrom_43 : decode cX1_coverFrom 43 = .ok (.aload_n 0, 1) := by decide +kernel
theorem dX1_coverFrom_44 : decode cX1_coverFrom 44 = .ok (.getfield 17, 3) := by decide +kernel
theorem dX1_coverFrom_47 : decode cX1_coverFrom 47 = .ok (.iload_n 1, 1) := by decide +kernel
theorem dX1_coverFrom_48 : decode cX1_coverFrom 48 = .ok (.iload_n 3, 1) := by decide +kernel
theorem dX1_coverFrom_49 : decode cX1_coverFrom 49 = .ok (.iastore, 1) := by decide +kernel
theorem dX1_coverFrom_50 : decode cX1_coverFrom 50 = .ok (.aload_n 0, 1) := by decide +kernel
theorem dX1_coverFrom_51 : decode cX1_coverFrom 51 = .ok (.iload_n 3, 1) := by decide +kernel
theorem dX1_coverFrom_52 : decode cX1_coverFrom 52 = .ok (.iconst 1, 1) := by decide +kernel
theorem dX1_coverFrom_53 : decode cX1_coverFrom 53 = .ok (.invokevirtual 53, 3) := by decide +kernel
theorem dX1_coverFrom_56 : decode cX1_coverFrom 56 = .ok (.aload_n 0, 1) := by decide +kernel
theorem dX1_coverFrom_57 : decode cX1_coverFrom 57 = .ok (.iload_n 1, 1) := by decide +kernel
theorem dX1_coverFrom_58 : decode cX1_coverFrom 58 = .ok (.iconst 1, 1) := by decide +kernel
theorem dX1_coverFrom_59 : decode cX1_coverFrom 59 = .ok (.iadd, 1) := by decide +kernel
theorem dX1_coverFrom_60 : decode cX1_coverFrom 60 = .ok (.iload_n 2, 1) := by decide +kernel
theorem dX1_coverFrom_61 : decode cX1_coverFrom 61 = .ok (.aload_n 0, 1) := by decide +kernel
theorem dX1_coverFrom_62 : decode cX1_coverFrom 62 = .ok (.iload_n 3, 1) := by decide +kernel
theorem dX1_coverFrom_63 : decode cX1_coverFrom 63 = .ok (.invokevirtual 57, 3) := by decide +kernel
theorem dX1_coverFrom_66 : decode cX1_coverFrom 66 = .ok (.iadd, 1) := by decide +kernel
theorem dX1_coverFrom_67 : decode cX1_coverFrom 67 = .ok (.invokestatic 37, 3) := by decide +kernel
theorem dX1_coverFrom_70 : decode cX1_coverFrom 70 = .ok (.aload_n 0, 1) := by decide +kernel
theorem dX1_coverFrom_71 : decode cX1_coverFrom 71 = .ok (.iload_n 3, 1) := by decide +kernel
theorem dX1_coverFrom_72 : decode cX1_coverFrom 72 = .ok (.iconst (-1), 1) := by decide +kernel
theorem dX1_coverFrom_73 : decode cX1_coverFrom 73 = .ok (.invokevirtual 53, 3) := by decide +kernel
theorem dX1_coverFrom_76 : decode cX1_coverFrom 76 = .ok (.iinc 3 1, 3) := by decide +kernel
theorem dX1_coverFrom_79 : decode cX1_coverFrom 79 = .ok (.goto (-55), 3) := by decide +kernel
theorem dX1_coverFrom_82 : decode cX1_coverFrom 82 = .ok (.return_, 1) := by decide +kernel
theorem dX1_keepSets_0 : decode cX1_keepSets 0 = .ok (.aload_n 0, 1) := by decide +kernel
theorem dX1_keepSets_1 : decode cX1_keepSets 1 = .ok (.iload_n 1, 1) := by decide +kernel
theorem dX1_keepSets_2 : decode cX1_keepSets 2 = .ok (.putfield 34, 3) := by decide +kernel
theorem dX1_keepSets_5 : decode cX1_keepSets 5 = .ok (.iconst 0, 1) := by decide +kernel
theorem dX1_keepSets_6 : decode cX1_keepSets 6 = .ok (.istore_n 2, 1) := by decide +kernel
theorem dX1_keepSets_7 : decode cX1_keepSets 7 = .ok (.iload_n 2, 1) := by decide +kernel
theorem dX1_keepSets_8 : decode cX1_keepSets 8 = .ok (.iconst 5, 1) := by decide +kernel
theorem dX1_keepSets_9 : decode cX1_keepSets 9 = .ok (.if_icmp .ge 21, 3) := by decide +kernel
theorem dX1_keepSets_12 : decode cX1_keepSets 12 = .ok (.aload_n 0, 1) := by decide +kernel
theorem dX1_keepSets_13 : decode cX1_keepSets 13 = .ok (.getfield 24, 3) := by decide +kernel
theorem dX1_keepSets_16 : decode cX1_keepSets 16 = .ok (.iload_n 2, 1) := by decide +kernel
theorem dX1_keepSets_17 : decode cX1_keepSets 17 = .ok (.aload_n 0, 1) := by decide +kernel
theorem dX1_keepSets_18 : decode cX1_keepSets 18 = .ok (.getfield 17, 3) := by decide +kernel
theorem dX1_keepSets_21 : decode cX1_keepSets 21 = .ok (.iload_n 2, 1) := by decide +kernel
theorem dX1_keepSets_22 : decode cX1_keepSets 22 = .ok (.iaload, 1) := by decide +kernel
theorem dX1_keepSets_23 : decode cX1_keepSets 23 = .ok (.iastore, 1) := by decide +kernel
theorem dX1_keepSets_24 : decode cX1_keepSets 24 = .ok (.iinc 2 1, 3) := by decide +kernel
theorem dX1_keepSets_27 : decode cX1_keepSets 27 = .ok (.goto (-20), 3) := by decide +kernel
theorem dX1_keepSets_30 : decode cX1_keepSets 30 = .ok (.return_, 1) := by decide +kernel
theorem dX1_canGive_0 : decode cX1_canGive 0 = .ok (.iload_n 2, 1) := by decide +kernel
theorem dX1_canGive_1 : decode cX1_canGive 1 = .ok (.invokestatic 61, 3) := by decide +kernel
theorem dX1_canGive_4 : decode cX1_canGive 4 = .ok (.aload_n 0, 1) := by decide +kernel
theorem dX1_canGive_5 : decode cX1_canGive 5 = .ok (.getfield 21, 3) := by decide +kernel
theorem dX1_canGive_8 : decode cX1_canGive 8 = .ok (.iload_n 1, 1) := by decide +kernel
theorem dX1_canGive_9 : decode cX1_canGive 9 = .ok (.iaload, 1) := by decide +kernel
theorem dX1_canGive_10 : decode cX1_canGive 10 = .ok (.if_icmp .eq 5, 3) := by decide +kernel
theorem dX1_canGive_13 : decode cX1_canGive 13 = .ok (.iconst 0, 1) := by decide +kernel
theorem dX1_canGive_14 : decode cX1_canGive 14 = .ok (.ireturn, 1) := by decide +kernel
theorem dX1_canGive_15 : decode cX1_canGive 15 = .ok (.iconst 0, 1) := by decide +kernel
theorem dX1_canGive_16 : decode cX1_canGive 16 = .ok (.istore_n 3, 1) := by decide +kernel
theorem dX1_canGive_17 : decode cX1_canGive 17 = .ok (.iload_n 3, 1) := by decide +kernel
theorem dX1_canGive_18 : decode cX1_canGive 18 = .ok (.aload_n 0, 1) := by decide +kernel
theorem dX1_canGive_19 : decode cX1_canGive 19 = .ok (.getfield 11, 3) := by decide +kernel
theorem dX1_canGive_22 : decode cX1_canGive 22 = .ok (.arraylength, 1) := by decide +kernel
theorem dX1_canGive_23 : decode cX1_canGive 23 = .ok (.if_icmp .ge 41, 3) := by decide +kernel
theorem dX1_canGive_26 : decode cX1_canGive 26 = .ok (.aload_n 0, 1) := by decide +kernel
theorem dX1_canGive_27 : decode cX1_canGive 27 = .ok (.getfield 11, 3) := by decide +kernel
theorem dX1_canGive_30 : decode cX1_canGive 30 = .ok (.iload_n 3, 1) := by decide +kernel
theorem dX1_canGive_31 : decode cX1_canGive 31 = .ok (.aaload, 1) := by decide +kernel
theorem dX1_canGive_32 : decode cX1_canGive 32 = .ok (.astore 4, 2) := by decide +kernel
theorem dX1_canGive_34 : decode cX1_canGive 34 = .ok (.iload_n 2, 1) := by decide +kernel
theorem dX1_canGive_35 : decode cX1_canGive 35 = .ok (.iload_n 3, 1) := by decide +kernel
theorem dX1_canGive_36 : decode cX1_canGive 36 = .ok (.invokestatic 66, 3) := by decide +kernel
theorem dX1_canGive_39 : decode cX1_canGive 39 = .ok (.ifCond .eq 19, 3) := by decide +kernel
theorem dX1_canGive_42 : decode cX1_canGive 42 = .ok (.aload 4, 2) := by decide +kernel
theorem dX1_canGive_44 : decode cX1_canGive 44 = .ok (.ifnull 12, 3) := by decide +kernel
theorem dX1_canGive_47 : decode cX1_canGive 47 = .ok (.aload 4, 2) := by decide +kernel
theorem dX1_canGive_49 : decode cX1_canGive 49 = .ok (.iload_n 1, 1) := by decide +kernel
theorem dX1_canGive_50 : decode cX1_canGive 50 = .ok (.invokevirtual 69, 3) := by decide +kernel
theorem dX1_canGive_53 : decode cX1_canGive 53 = .ok (.ifCond .ne 5, 3) := by decide +kernel
theorem dX1_canGive_56 : decode cX1_canGive 56 = .ok (.iconst 0, 1) := by decide +kernel
theorem dX1_canGive_57 : decode cX1_canGive 57 = .ok (.ireturn, 1) := by decide +kernel
theorem dX1_canGive_58 : decode cX1_canGive 58 = .ok (.iinc 3 1, 3) := by decide +kernel
theorem dX1_canGive_61 : decode cX1_canGive 61 = .ok (.goto (-44), 3) := by decide +kernel
theorem dX1_canGive_64 : decode cX1_canGive 64 = .ok (.iconst 1, 1) := by decide +kernel
theorem dX1_canGive_65 : decode cX1_canGive 65 = .ok (.ireturn, 1) := by decide +kernel
theorem dX1_give_0 : decode cX1_give 0 = .ok (.iconst 0, 1) := by decide +kernel
theorem dX1_give_1 : decode cX1_give 1 = .ok (.istore_n 3, 1) := by decide +kernel
theorem dX1_give_2 : decode cX1_give 2 = .ok (.iload_n 3, 1) := by decide +kernel
theorem dX1_give_3 : decode cX1_give 3 = .ok (.aload_n 0, 1) := by decide +kernel
theorem dX1_give_4 : decode cX1_give 4 = .ok (.getfield 11, 3) := by decide +kernel
theorem dX1_give_7 : decode cX1_give 7 = .ok (.arraylength, 1) := by decide +kernel
theorem dX1_give_8 : decode cX1_give 8 = .ok (.if_icmp .ge 41, 3) := by decide +kernel
theorem dX1_give_11 : decode cX1_give 11 = .ok (.aload_n 0, 1) := by decide +kernel
theorem dX1_give_12 : decode cX1_give 12 = .ok (.getfield 11, 3) := by decide +kernel
theorem dX1_give_15 : decode cX1_give 15 = .ok (.iload_n 3, 1) := by decide +kernel
theorem dX1_give_16 : decode cX1_give 16 = .ok (.aaload, 1) := by decide +kernel
theorem dX1_give_17 : decode cX1_give 17 = .ok (.astore 4, 2) := by decide +kernel
theorem dX1_give_19 : decode cX1_give 19 = .ok (.aload 4, 2) := by decide +kernel
theorem dX1_give_21 : decode cX1_give 21 = .ok (.ifnull 22, 3) := by decide +kernel
theorem dX1_give_24 : decode cX1_give 24 = .ok (.iload_n 1, 1) := by decide +kernel
theorem dX1_give_25 : decode cX1_give 25 = .ok (.iload_n 3, 1) := by decide +kernel
theorem dX1_give_26 : decode cX1_give 26 = .ok (.invokestatic 66, 3) := by decide +kernel
theorem dX1_give_29 : decode cX1_give 29 = .ok (.ifCond .eq 14, 3) := by decide +kernel
theorem dX1_give_32 : decode cX1_give 32 = .ok (.aload 4, 2) := by decide +kernel
theorem dX1_give_34 : decode cX1_give 34 = .ok (.dup, 1) := by decide +kernel
theorem dX1_give_35 : decode cX1_give 35 = .ok (.getfield 72, 3) := by decide +kernel
theorem dX1_give_38 : decode cX1_give 38 = .ok (.iload_n 2, 1) := by decide +kernel
theorem dX1_give_39 : decode cX1_give 39 = .ok (.iadd, 1) := by decide +kernel
theorem dX1_give_40 : decode cX1_give 40 = .ok (.putfield 72, 3) := by decide +kernel
theorem dX1_give_43 : decode cX1_give 43 = .ok (.iinc 3 1, 3) := by decide +kernel
theorem dX1_give_46 : decode cX1_give 46 = .ok (.goto (-44), 3) := by decide +kernel
theorem dX1_give_49 : decode cX1_give 49 = .ok (.return_, 1) := by decide +kernel
theorem dX1_wagesOf_0 : decode cX1_wagesOf 0 = .ok (.iconst 0, 1) := by decide +kernel
theorem dX1_wagesOf_1 : decode cX1_wagesOf 1 = .ok (.istore_n 2, 1) := by decide +kernel
theorem dX1_wagesOf_2 : decode cX1_wagesOf 2 = .ok (.iconst 0, 1) := by decide +kernel
theorem dX1_wagesOf_3 : decode cX1_wagesOf 3 = .ok (.istore_n 3, 1) := by decide +kernel
theorem dX1_wagesOf_4 : decode cX1_wagesOf 4 = .ok (.iload_n 3, 1) := by decide +kernel
theorem dX1_wagesOf_5 : decode cX1_wagesOf 5 = .ok (.aload_n 0, 1) := by decide +kernel
theorem dX1_wagesOf_6 : decode cX1_wagesOf 6 = .ok (.getfield 11, 3) := by decide +kernel
theorem dX1_wagesOf_9 : decode cX1_wagesOf 9 = .ok (.arraylength, 1) := by decide +kernel
theorem dX1_wagesOf_10 : decode cX1_wagesOf 10 = .ok (.if_icmp .ge 38, 3) := by decide +kernel
theorem dX1_wagesOf_13 : decode cX1_wagesOf 13 = .ok (.aload_n 0, 1) := by decide +kernel
theorem dX1_wagesOf_14 : decode cX1_wagesOf 14 = .ok (.getfield 11, 3) := by decide +kernel
theorem dX1_wagesOf_17 : decode cX1_wagesOf 17 = .ok (.iload_n 3, 1) := by decide +kernel
theorem dX1_wagesOf_18 : decode cX1_wagesOf 18 = .ok (.aaload, 1) := by decide +kernel
theorem dX1_wagesOf_19 : decode cX1_wagesOf 19 = .ok (.astore 4, 2) := by decide +kernel
theorem dX1_wagesOf_21 : decode cX1_wagesOf 21 = .ok (.aload 4, 2) := by decide +kernel
theorem dX1_wagesOf_23 : decode cX1_wagesOf 23 = .ok (.ifnull 19, 3) := by decide +kernel
theorem dX1_wagesOf_26 : decode cX1_wagesOf 26 = .ok (.iload_n 1, 1) := by decide +kernel
theorem dX1_wagesOf_27 : decode cX1_wagesOf 27 = .ok (.iload_n 3, 1) := by decide +kernel
theorem dX1_wagesOf_28 : decode cX1_wagesOf 28 = .ok (.invokestatic 66, 3) := by decide +kernel
theorem dX1_wagesOf_31 : decode cX1_wagesOf 31 = .ok (.ifCond .eq 11, 3) := by decide +kernel
theorem dX1_wagesOf_34 : decode cX1_wagesOf 34 = .ok (.iload_n 2, 1) := by decide +kernel
theorem dX1_wagesOf_35 : decode cX1_wagesOf 35 = .ok (.aload 4, 2) := by decide +kernel
theorem dX1_wagesOf_37 : decode cX1_wagesOf 37 = .ok (.getfield 75, 3) := by decide +kernel
theorem dX1_wagesOf_40 : decode cX1_wagesOf 40 = .ok (.iadd, 1) := by decide +kernel
theorem dX1_wagesOf_41 : decode cX1_wagesOf 41 = .ok (.istore_n 2, 1) := by decide +kernel
theorem dX1_wagesOf_42 : decode cX1_wagesOf 42 = .ok (.iinc 3 1, 3) := by decide +kernel
theorem dX1_wagesOf_45 : decode cX1_wagesOf 45 = .ok (.goto (-41), 3) := by decide +kernel
theorem dX1_wagesOf_48 : decode cX1_wagesOf 48 = .ok (.iload_n 2, 1) := by decide +kernel
theorem dX1_wagesOf_49 : decode cX1_wagesOf 49 = .ok (.ireturn, 1) := by decide +kernel
theorem dX1_isIn_0 : decode cX1_isIn 0 = .ok (.iload_n 0, 1) := by decide +kernel
theorem dX1_isIn_1 : decode cX1_isIn 1 = .ok (.iload_n 1, 1) := by decide +kernel
theorem dX1_isIn_2 : decode cX1_isIn 2 = .ok (.iushr, 1) := by decide +kernel
theorem dX1_isIn_3 : decode cX1_isIn 3 = .ok (.iconst 1, 1) := by decide +kernel
theorem dX1_isIn_4 : decode cX1_isIn 4 = .ok (.iand, 1) := by decide +kernel
theorem dX1_isIn_5 : decode cX1_isIn 5 = .ok (.ifCond .eq 7, 3) := by decide +kernel
theorem dX1_isIn_8 : decode cX1_isIn 8 = .ok (.iconst 1, 1) := by decide +kernel
theorem dX1_isIn_9 : decode cX1_isIn 9 = .ok (.goto 4, 3) := by decide +kernel
theorem dX1_isIn_12 : decode cX1_isIn 12 = .ok (.iconst 0, 1) := by decide +kernel
theorem dX1_isIn_13 : decode cX1_isIn 13 = .ok (.ireturn, 1) := by decide +kernel
theorem dX2_init_0 : decode cX2_init 0 = .ok (.aload_n 0, 1) := by decide +kernel
theorem dX2_init_1 : decode cX2_init 1 = .ok (.invokespecial 1, 3) := by decide +kernel
theorem dX2_init_4 : decode cX2_init 4 = .ok (.return_, 1) := by decide +kernel
theorem dX2_hasHoliday_0 : decode cX2_hasHoliday 0 = .ok (.aload_n 0, 1) := by decide +kernel
theorem dX2_hasHoliday_1 : decode cX2_hasHoliday 1 = .ok (.getfield 7, 3) := by decide +kernel
theorem dX2_hasHoliday_4 : decode cX2_hasHoliday 4 = .ok (.iload_n 1, 1) := by decide +kernel
theorem dX2_hasHoliday_5 : decode cX2_hasHoliday 5 = .ok (.lushr, 1) := by decide +kernel
theorem dX2_hasHoliday_6 : decode cX2_hasHoliday 6 = .ok (.lconst 1, 1) := by decide +kernel
theorem dX2_hasHoliday_7 : decode cX2_hasHoliday 7 = .ok (.land, 1) := by decide +kernel
theorem dX2_hasHoliday_8 : decode cX2_hasHoliday 8 = .ok (.lconst 0, 1) := by decide +kernel
theorem dX2_hasHoliday_9 : decode cX2_hasHoliday 9 = .ok (.lcmp, 1) := by decide +kernel
theorem dX2_hasHoliday_10 : decode cX2_hasHoliday 10 = .ok (.ifCond .eq 7, 3) := by decide +kernel
theorem dX2_hasHoliday_13 : decode cX2_hasHoliday 13 = .ok (.iconst 1, 1) := by decide +kernel
theorem dX2_hasHoliday_14 : decode cX2_hasHoliday 14 = .ok (.goto 4, 3) := by decide +kernel
theorem dX2_hasHoliday_17 : decode cX2_hasHoliday 17 = .ok (.iconst 0, 1) := by decide +kernel
theorem dX2_hasHoliday_18 : decode cX2_hasHoliday 18 = .ok (.ireturn, 1) := by decide +kernel
theorem dX3_init_0 : decode cX3_init 0 = .ok (.aload_n 0, 1) := by decide +kernel
theorem dX3_init_1 : decode cX3_init 1 = .ok (.invokespecial 3, 3) := by decide +kernel
theorem dX3_init_4 : decode cX3_init 4 = .ok (.aload_n 0, 1) := by decide +kernel
theorem dX3_init_5 : decode cX3_init 5 = .ok (.iconst 3, 1) := by decide +kernel
theorem dX3_init_6 : decode cX3_init 6 = .ok (.newarray .int, 2) := by decide +kernel
theorem dX3_init_8 : decode cX3_init 8 = .ok (.putfield 9, 3) := by decide +kernel
theorem dX3_init_11 : decode cX3_init 11 = .ok (.return_, 1) := by decide +kernel
theorem dX3_clear_0 : decode cX3_clear 0 = .ok (.iconst 0, 1) := by decide +kernel
theorem dX3_clear_1 : decode cX3_clear 1 = .ok (.istore_n 1, 1) := by decide +kernel
theorem dX3_clear_2 : decode cX3_clear 2 = .ok (.iload_n 1, 1) := by decide +kernel
theorem dX3_clear_3 : decode cX3_clear 3 = .ok (.aload_n 0, 1) := by decide +kernel
theorem dX3_clear_4 : decode cX3_clear 4 = .ok (.getfield 9, 3) := by decide +kernel
theorem dX3_clear_7 : decode cX3_clear 7 = .ok (.arraylength, 1) := by decide +kernel
theorem dX3_clear_8 : decode cX3_clear 8 = .ok (.if_icmp .ge 16, 3) := by decide +kernel
theorem dX3_clear_11 : decode cX3_clear 11 = .ok (.aload_n 0, 1) := by decide +kernel
theorem dX3_clear_12 : decode cX3_clear 12 = .ok (.getfield 9, 3) := by decide +kernel
theorem dX3_clear_15 : decode cX3_clear 15 = .ok (.iload_n 1, 1) := by decide +kernel
theorem dX3_clear_16 : decode cX3_clear 16 = .ok (.iconst 0, 1) := by decide +kernel
theorem dX3_clear_17 : decode cX3_clear 17 = .ok (.iastore, 1) := by decide +kernel
theorem dX3_clear_18 : decode cX3_clear 18 = .ok (.iinc 1 1, 3) := by decide +kernel
theorem dX3_clear_21 : decode cX3_clear 21 = .ok (.goto (-19), 3) := by decide +kernel
theorem dX3_clear_24 : decode cX3_clear 24 = .ok (.return_, 1) := by decide +kernel
theorem dX3_add_0 : decode cX3_add 0 = .ok (.iload_n 1, 1) := by decide +kernel
theorem dX3_add_1 : decode cX3_add 1 = .ok (.invokestatic 15, 3) := by decide +kernel
theorem dX3_add_4 : decode cX3_add 4 = .ok (.ifCond .eq 13, 3) := by decide +kernel
theorem dX3_add_7 : decode cX3_add 7 = .ok (.aload_n 0, 1) := by decide +kernel
theorem dX3_add_8 : decode cX3_add 8 = .ok (.getfield 9, 3) := by decide +kernel
theorem dX3_add_11 : decode cX3_add 11 = .ok (.iload_n 1, 1) := by decide +kernel
theorem dX3_add_12 : decode cX3_add 12 = .ok (.dup2, 1) := by decide +kernel
theorem dX3_add_13 : decode cX3_add 13 = .ok (.iaload, 1) := by decide +kernel
theorem dX3_add_14 : decode cX3_add 14 = .ok (.iconst 1, 1) := by decide +kernel
theorem dX3_add_15 : decode cX3_add 15 = .ok (.iadd, 1) := by decide +kernel
theorem dX3_add_16 : decode cX3_add 16 = .ok (.iastore, 1) := by decide +kernel
theorem dX3_add_17 : decode cX3_add 17 = .ok (.return_, 1) := by decide +kernel
theorem dX3_total_0 : decode cX3_total 0 = .ok (.aload_n 0, 1) := by decide +kernel
theorem dX3_total_1 : decode cX3_total 1 = .ok (.getfield 9, 3) := by decide +kernel
theorem dX3_total_4 : decode cX3_total 4 = .ok (.iconst 0, 1) := by decide +kernel
theorem dX3_total_5 : decode cX3_total 5 = .ok (.iaload, 1) := by decide +kernel
theorem dX3_total_6 : decode cX3_total 6 = .ok (.aload_n 0, 1) := by decide +kernel
theorem dX3_total_7 : decode cX3_total 7 = .ok (.getfield 9, 3) := by decide +kernel
theorem dX3_total_10 : decode cX3_total 10 = .ok (.iconst 1, 1) := by decide +kernel
theorem dX3_total_11 : decode cX3_total 11 = .ok (.iaload, 1) := by decide +kernel
theorem dX3_total_12 : decode cX3_total 12 = .ok (.iadd, 1) := by decide +kernel
theorem dX3_total_13 : decode cX3_total 13 = .ok (.aload_n 0, 1) := by decide +kernel
theorem dX3_total_14 : decode cX3_total 14 = .ok (.getfield 9, 3) := by decide +kernel
theorem dX3_total_17 : decode cX3_total 17 = .ok (.iconst 2, 1) := by decide +kernel
theorem dX3_total_18 : decode cX3_total 18 = .ok (.iaload, 1) := by decide +kernel
theorem dX3_total_19 : decode cX3_total 19 = .ok (.iadd, 1) := by decide +kernel
theorem dX3_total_20 : decode cX3_total 20 = .ok (.ireturn, 1) := by decide +kernel
theorem dX3_needAt_0 : decode cX3_needAt 0 = .ok (.iload_n 1, 1) := by decide +kernel
theorem dX3_needAt_1 : decode cX3_needAt 1 = .ok (.iload_n 2, 1) := by decide +kernel
theorem dX3_needAt_2 : decode cX3_needAt 2 = .ok (.imul, 1) := by decide +kernel
theorem dX3_needAt_3 : decode cX3_needAt 3 = .ok (.iload_n 3, 1) := by decide +kernel
theorem dX3_needAt_4 : decode cX3_needAt 4 = .ok (.imul, 1) := by decide +kernel
theorem dX3_needAt_5 : decode cX3_needAt 5 = .ok (.istore 4, 2) := by decide +kernel
theorem dX3_needAt_7 : decode cX3_needAt 7 = .ok (.iload 4, 2) := by decide +kernel
theorem dX3_needAt_9 : decode cX3_needAt 9 = .ok (.ifCond .gt 5, 3) := by decide +kernel
theorem dX3_needAt_12 : decode cX3_needAt 12 = .ok (.iconst 0, 1) := by decide +kernel
theorem dX3_needAt_13 : decode cX3_needAt 13 = .ok (.ireturn, 1) := by decide +kernel
theorem dX3_needAt_14 : decode cX3_needAt 14 = .ok (.aload_n 0, 1) := by decide +kernel
theorem dX3_needAt_15 : decode cX3_needAt 15 = .ok (.getfield 9, 3) := by decide +kernel
theorem dX3_needAt_18 : decode cX3_needAt 18 = .ok (.iconst 0, 1) := by decide +kernel
theorem dX3_needAt_19 : decode cX3_needAt 19 = .ok (.iaload, 1) := by decide +kernel
theorem dX3_needAt_20 : decode cX3_needAt 20 = .ok (.iload_n 2, 1) := by decide +kernel
theorem dX3_needAt_21 : decode cX3_needAt 21 = .ok (.imul, 1) := by decide +kernel
theorem dX3_needAt_22 : decode cX3_needAt 22 = .ok (.iload_n 3, 1) := by decide +kernel
theorem dX3_needAt_23 : decode cX3_needAt 23 = .ok (.imul, 1) := by decide +kernel
theorem dX3_needAt_24 : decode cX3_needAt 24 = .ok (.aload_n 0, 1) := by decide +kernel
theorem dX3_needAt_25 : decode cX3_needAt 25 = .ok (.getfield 9, 3) := by decide +kernel
theorem dX3_needAt_28 : decode cX3_needAt 28 = .ok (.iconst 1, 1) := by decide +kernel
theorem dX3_needAt_29 : decode cX3_needAt 29 = .ok (.iaload, 1) := by decide +kernel
theorem dX3_needAt_30 : decode cX3_needAt 30 = .ok (.iload_n 1, 1) := by decide +kernel
theorem dX3_needAt_31 : decode cX3_needAt 31 = .ok (.imul, 1) := by decide +kernel
theorem dX3_needAt_32 : decode cX3_needAt 32 = .ok (.iload_n 3, 1) := by decide +kernel
theorem dX3_needAt_33 : decode cX3_needAt 33 = .ok (.imul, 1) := by decide +kernel
theorem dX3_needAt_34 : decode cX3_needAt 34 = .ok (.iadd, 1) := by decide +kernel
theorem dX3_needAt_35 : decode cX3_needAt 35 = .ok (.aload_n 0, 1) := by decide +kernel
theorem dX3_needAt_36 : decode cX3_needAt 36 = .ok (.getfield 9, 3) := by decide +kernel
theorem dX3_needAt_39 : decode cX3_needAt 39 = .ok (.iconst 2, 1) := by decide +kernel
theorem dX3_needAt_40 : decode cX3_needAt 40 = .ok (.iaload, 1) := by decide +kernel
theorem dX3_needAt_41 : decode cX3_needAt 41 = .ok (.iload_n 1, 1) := by decide +kernel
theorem dX3_needAt_42 : decode cX3_needAt 42 = .ok (.imul, 1) := by decide +kernel
theorem dX3_needAt_43 : decode cX3_needAt 43 = .ok (.iload_n 2, 1) := by decide +kernel
theorem dX3_needAt_44 : decode cX3_needAt 44 = .ok (.imul, 1) := by decide +kernel
theorem dX3_needAt_45 : decode cX3_needAt 45 = .ok (.iadd, 1) := by decide +kernel
theorem dX3_needAt_46 : decode cX3_needAt 46 = .ok (.istore 5, 2) := by decide +kernel
theorem dX3_needAt_48 : decode cX3_needAt 48 = .ok (.iload 5, 2) := by decide +kernel
theorem dX3_needAt_50 : decode cX3_needAt 50 = .ok (.iload 4, 2) := by decide +kernel
theorem dX3_needAt_52 : decode cX3_needAt 52 = .ok (.iadd, 1) := by decide +kernel
theorem dX3_needAt_53 : decode cX3_needAt 53 = .ok (.iconst 1, 1) := by decide +kernel
theorem dX3_needAt_54 : decode cX3_needAt 54 = .ok (.isub, 1) := by decide +kernel
theorem dX3_needAt_55 : decode cX3_needAt 55 = .ok (.iload 4, 2) := by decide +kernel
theorem dX3_needAt_57 : decode cX3_needAt 57 = .ok (.idiv, 1) := by decide +kernel
theorem dX3_needAt_58 : decode cX3_needAt 58 = .ok (.ireturn, 1) := by decide +kernel
theorem dX4_init_0 : decode cX4_init 0 = .ok (.aload_n 0, 1) := by decide +kernel
theorem dX4_init_1 : decode cX4_init 1 = .ok (.invokespecial 3, 3) := by decide +kernel
theorem dX4_init_4 : decode cX4_init 4 = .ok (.aload_n 0, 1) := by decide +kernel
theorem dX4_init_5 : decode cX4_init 5 = .ok (.bipush 60, 2) := by decide +kernel
theorem dX4_init_7 : decode cX4_init 7 = .ok (.newarray .char, 2) := by decide +kernel
theorem dX4_init_9 : decode cX4_init 9 = .ok (.putfield 9, 3) := by decide +kernel
theorem dX4_init_12 : decode cX4_init 12 = .ok (.return_, 1) := by decide +kernel
theorem dX4_append_0 : decode cX4_append 0 = .ok (.aload_n 0, 1) := by decide +kernel
theorem dX4_append_1 : decode cX4_append 1 = .ok (.getfield 15, 3) := by decide +kernel
theorem dX4_append_4 : decode cX4_append 4 = .ok (.aload_n 0, 1) := by decide +kernel
theorem dX4_append_5 : decode cX4_append 5 = .ok (.getfield 9, 3) := by decide +kernel
theorem dX4_append_8 : decode cX4_append 8 = .ok (.arraylength, 1) := by decide +kernel
theorem dX4_append_9 : decode cX4_append 9 = .ok (.if_icmp .lt 5, 3) := by decide +kernel
theorem dX4_append_12 : decode cX4_append 12 = .ok (.iconst 0, 1) := by decide +kernel
theorem dX4_append_13 : decode cX4_append 13 = .ok (.ireturn, 1) := by decide +kernel
theorem dX4_append_14 : decode cX4_append 14 = .ok (.aload_n 0, 1) := by decide +kernel
theorem dX4_append_15 : decode cX4_append 15 = .ok (.getfield 9, 3) := by decide +kernel
theorem dX4_append_18 : decode cX4_append 18 = .ok (.aload_n 0, 1) := by decide +kernel
theorem dX4_append_19 : decode cX4_append 19 = .ok (.getfield 15, 3) := by decide +kernel
theorem dX4_append_22 : decode cX4_append 22 = .ok (.iload_n 1, 1) := by decide +kernel
theorem dX4_append_23 : decode cX4_append 23 = .ok (.castore, 1) := by decide +kernel
theorem dX4_append_24 : decode cX4_append 24 = .ok (.aload_n 0, 1) := by decide +kernel
theorem dX4_append_25 : decode cX4_append 25 = .ok (.dup, 1) := by decide +kernel
theorem dX4_append_26 : decode cX4_append 26 = .ok (.getfield 15, 3) := by decide +kernel
theorem dX4_append_29 : decode cX4_append 29 = .ok (.iconst 1, 1) := by decide +kernel
theorem dX4_append_30 : decode cX4_append 30 = .ok (.iadd, 1) := by decide +kernel
theorem dX4_append_31 : decode cX4_append 31 = .ok (.putfield 15, 3) := by decide +kernel
theorem dX4_append_34 : decode cX4_append 34 = .ok (.iconst 1, 1) := by decide +kernel
theorem dX4_append_35 : decode cX4_append 35 = .ok (.ireturn, 1) := by decide +kernel
theorem dX4_read_0 : decode cX4_read 0 = .ok (.aload_n 0, 1) := by decide +kernel
theorem dX4_read_1 : decode cX4_read 1 = .ok (.lconst 0, 1) := by decide +kernel
theorem dX4_read_2 : decode cX4_read 2 = .ok (.putfield 19, 3) := by decide +kernel
theorem dX4_read_5 : decode cX4_read 5 = .ok (.iconst (-1), 1) := by decide +kernel
theorem dX4_read_6 : decode cX4_read 6 = .ok (.istore_n 1, 1) := by decide +kernel
theorem dX4_read_7 : decode cX4_read 7 = .ok (.iconst 0, 1) := by decide +kernel
theorem dX4_read_8 : decode cX4_read 8 = .ok (.istore_n 2, 1) := by decide +kernel
theorem dX4_read_9 : decode cX4_read 9 = .ok (.iconst 0, 1) := by decide +kernel
theorem dX4_read_10 : decode cX4_read 10 = .ok (.istore_n 3, 1) := by decide +kernel
theorem dX4_read_11 : decode cX4_read 11 = .ok (.iconst 0, 1) := by decide +kernel
theorem dX4_read_12 : decode cX4_read 12 = .ok (.istore 4, 2) := by decide +kernel
theorem dX4_read_14 : decode cX4_read 14 = .ok (.iload 4, 2) := by decide +kernel
theorem dX4_read_16 : decode cX4_read 16 = .ok (.aload_n 0, 1) := by decide +kernel
theorem dX4_read_17 : decode cX4_read 17 = .ok (.getfield 15, 3) := by decide +kernel
theorem dX4_read_20 : decode cX4_read 20 = .ok (.if_icmp .ge 165, 3) := by decide +kernel
theorem dX4_read_23 : decode cX4_read 23 = .ok (.iload 4, 2) := by decide +kernel
theorem dX4_read_25 : decode cX4_read 25 = .ok (.aload_n 0, 1) := by decide +kernel
theorem dX4_read_26 : decode cX4_read 26 = .ok (.getfield 9, 3) := by decide +kernel
theorem dX4_read_29 : decode cX4_read 29 = .ok (.arraylength, 1) := by decide +kernel
theorem dX4_read_30 : decode cX4_read 30 = .ok (.if_icmp .ge 155, 3) := by decide +kernel
theorem dX4_read_33 : decode cX4_read 33 = .ok (.aload_n 0, 1) := by decide +kernel
theorem dX4_read_34 : decode cX4_read 34 = .ok (.getfield 9, 3) := by decide +kernel
theorem dX4_read_37 : decode cX4_read 37 = .ok (.iload 4, 2) := by decide +kernel
theorem dX4_read_39 : decode cX4_read 39 = .ok (.caload, 1) := by decide +kernel
theorem dX4_read_40 : decode cX4_read 40 = .ok (.istore 5, 2) := by decide +kernel
theorem dX4_read_42 : decode cX4_read 42 = .ok (.iload 4, 2) := by decide +kernel
theorem dX4_read_44 : decode cX4_read 44 = .ok (.iconst 4, 1) := by decide +kernel
theorem dX4_read_45 : decode cX4_read 45 = .ok (.irem, 1) := by decide +kernel
theorem dX4_read_46 : decode cX4_read 46 = .ok (.tableswitch 108 0 2 #[26, 54, 80], 26) := by decide +kernel
theorem dX4_read_72 : decode cX4_read 72 = .ok (.iload 5, 2) := by decide +kernel
theorem dX4_read_74 : decode cX4_read 74 = .ok (.bipush 48, 2) := by decide +kernel
theorem dX4_read_76 : decode cX4_read 76 = .ok (.iload_n 1, 1) := by decide +kernel
theorem dX4_read_77 : decode cX4_read 77 = .ok (.iadd, 1) := by decide +kernel
theorem dX4_read_78 : decode cX4_read 78 = .ok (.if_icmp .le 10, 3) := by decide +kernel
theorem dX4_read_81 : decode cX4_read 81 = .ok (.iload 5, 2) := by decide +kernel
theorem dX4_read_83 : decode cX4_read 83 = .ok (.bipush 52, 2) := by decide +kernel
theorem dX4_read_85 : decode cX4_read 85 = .ok (.if_icmp .le 6, 3) := by decide +kernel
theorem dX4_read_88 : decode cX4_read 88 = .ok (.iload 4, 2) := by decide +kernel
theorem dX4_read_90 : decode cX4_read 90 = .ok (.ireturn, 1) := by decide +kernel
theorem dX4_read_91 : decode cX4_read 91 = .ok (.iload 5, 2) := by decide +kernel
theorem dX4_read_93 : decode cX4_read 93 = .ok (.bipush 48, 2) := by decide +kernel
theorem dX4_read_95 : decode cX4_read 95 = .ok (.isub, 1) := by decide +kernel
theorem dX4_read_96 : decode cX4_read 96 = .ok (.istore_n 1, 1) := by decide +kernel
theorem dX4_read_97 : decode cX4_read 97 = .ok (.goto 82, 3) := by decide +kernel
theorem dX4_read_100 : decode cX4_read 100 = .ok (.iload 5, 2) := by decide +kernel
theorem dX4_read_102 : decode cX4_read 102 = .ok (.bipush 97, 2) := by decide +kernel
theorem dX4_read_104 : decode cX4_read 104 = .ok (.if_icmp .lt 10, 3) := by decide +kernel
theorem dX4_read_107 : decode cX4_read 107 = .ok (.iload 5, 2) := by decide +kernel
theorem dX4_read_109 : decode cX4_read 109 = .ok (.bipush 106, 2) := by decide +kernel
theorem dX4_read_111 : decode cX4_read 111 = .ok (.if_icmp .le 6, 3) := by decide +kernel
theorem dX4_read_114 : decode cX4_read 114 = .ok (.iload 4, 2) := by decide +kernel
theorem dX4_read_116 : decode cX4_read 116 = .ok (.ireturn, 1) := by decide +kernel
theorem dX4_read_117 : decode cX4_read 117 = .ok (.iload 5, 2) := by decide +kernel
theorem dX4_read_119 : decode cX4_read 119 = .ok (.bipush 97, 2) := by decide +kernel
theorem dX4_read_121 : decode cX4_read 121 = .ok (.isub, 1) := by decide +kernel
theorem dX4_read_122 : decode cX4_read 122 = .ok (.istore_n 2, 1) := by decide +kernel
theorem dX4_read_123 : decode cX4_read 123 = .ok (.goto 56, 3) := by decide +kernel
theorem dX4_read_126 : decode cX4_read 126 = .ok (.iload 5, 2) := by decide +kernel
theorem dX4_read_128 : decode cX4_read 128 = .ok (.bipush 97, 2) := by decide +kernel
theorem dX4_read_130 : decode cX4_read 130 = .ok (.iload_n 2, 1) := by decide +kernel
theorem dX4_read_131 : decode cX4_read 131 = .ok (.iadd, 1) := by decide +kernel
theorem dX4_read_132 : decode cX4_read 132 = .ok (.if_icmp .le 10, 3) := by decide +kernel
theorem dX4_read_135 : decode cX4_read 135 = .ok (.iload 5, 2) := by decide +kernel
theorem dX4_read_137 : decode cX4_read 137 = .ok (.bipush 107, 2) := by decide +kernel
theorem dX4_read_139 : decode cX4_read 139 = .ok (.if_icmp .le 6, 3) := by decide +kernel
theorem dX4_read_142 : decode cX4_read 142 = .ok (.iload 4, 2) := by decide +kernel
theorem dX4_read_144 : decode cX4_read 144 = .ok (.ireturn, 1) := by decide +kernel
theorem dX4_read_145 : decode cX4_read 145 = .ok (.iload 5, 2) := by decide +kernel
theorem dX4_read_147 : decode cX4_read 147 = .ok (.bipush 97, 2) := by decide +kernel
theorem dX4_read_149 : decode cX4_read 149 = .ok (.isub, 1) := by decide +kernel
theorem dX4_read_150 : decode cX4_read 150 = .ok (.istore_n 3, 1) := by decide +kernel
theorem dX4_read_151 : decode cX4_read 151 = .ok (.goto 28, 3) := by decide +kernel
theorem dX4_read_154 : decode cX4_read 154 = .ok (.iload 5, 2) := by decide +kernel
theorem dX4_read_156 : decode cX4_read 156 = .ok (.bipush 59, 2) := by decide +kernel
theorem dX4_read_158 : decode cX4_read 158 = .ok (.if_icmp .eq 6, 3) := by decide +kernel
theorem dX4_read_161 : decode cX4_read 161 = .ok (.iload 4, 2) := by decide +kernel
theorem dX4_read_163 : decode cX4_read 163 = .ok (.ireturn, 1) := by decide +kernel
theorem dX4_read_164 : decode cX4_read 164 = .ok (.aload_n 0, 1) := by decide +kernel
theorem dX4_read_165 : decode cX4_read 165 = .ok (.dup, 1) := by decide +kernel
theorem dX4_read_166 : decode cX4_read 166 = .ok (.getfield 19, 3) := by decide +kernel
theorem dX4_read_169 : decode cX4_read 169 = .ok (.iload_n 1, 1) := by decide +kernel
theorem dX4_read_170 : decode cX4_read 170 = .ok (.iload_n 2, 1) := by decide +kernel
theorem dX4_read_171 : decode cX4_read 171 = .ok (.iload_n 3, 1) := by decide +kernel
theorem dX4_read_172 : decode cX4_read 172 = .ok (.invokestatic 23, 3) := by decide +kernel
theorem dX4_read_175 : decode cX4_read 175 = .ok (.lor, 1) := by decide +kernel
theorem dX4_read_176 : decode cX4_read 176 = .ok (.putfield 19, 3) := by decide +kernel
theorem dX4_read_179 : decode cX4_read 179 = .ok (.iinc 4 1, 3) := by decide +kernel
theorem dX4_read_182 : decode cX4_read 182 = .ok (.goto (-168), 3) := by decide +kernel
theorem dX4_read_185 : decode cX4_read 185 = .ok (.aload_n 0, 1) := by decide +kernel
theorem dX4_read_186 : decode cX4_read 186 = .ok (.getfield 15, 3) := by decide +kernel
theorem dX4_read_189 : decode cX4_read 189 = .ok (.iconst 4, 1) := by decide +kernel
theorem dX4_read_190 : decode cX4_read 190 = .ok (.irem, 1) := by decide +kernel
theorem dX4_read_191 : decode cX4_read 191 = .ok (.ifCond .ne 7, 3) := by decide +kernel
theorem dX4_read_194 : decode cX4_read 194 = .ok (.iconst (-1), 1) := by decide +kernel
theorem dX4_read_195 : decode cX4_read 195 = .ok (.goto 7, 3) := by decide +kernel
theorem dX4_read_198 : decode cX4_read 198 = .ok (.aload_n 0, 1) := by decide +kernel
theorem dX4_read_199 : decode cX4_read 199 = .ok (.getfield 15, 3) := by decide +kernel
theorem dX4_read_202 : decode cX4_read 202 = .ok (.ireturn, 1) := by decide +kernel
theorem dX5_init_0 : decode cX5_init 0 = .ok (.aload_n 0, 1) := by decide +kernel
theorem dX5_init_1 : decode cX5_init 1 = .ok (.invokespecial 1, 3) := by decide +kernel
theorem dX5_init_4 : decode cX5_init 4 = .ok (.aload_n 0, 1) := by decide +kernel
theorem dX5_init_5 : decode cX5_init 5 = .ok (.iload_n 1, 1) := by decide +kernel
theorem dX5_init_6 : decode cX5_init 6 = .ok (.putfield 7, 3) := by decide +kernel
theorem dX5_init_9 : decode cX5_init 9 = .ok (.aload_n 0, 1) := by decide +kernel
theorem dX5_init_10 : decode cX5_init 10 = .ok (.iload_n 2, 1) := by decide +kernel
theorem dX5_init_11 : decode cX5_init 11 = .ok (.putfield 13, 3) := by decide +kernel
theorem dX5_init_14 : decode cX5_init 14 = .ok (.aload_n 0, 1) := by decide +kernel
theorem dX5_init_15 : decode cX5_init 15 = .ok (.iload_n 3, 1) := by decide +kernel
theorem dX5_init_16 : decode cX5_init 16 = .ok (.putfield 16, 3) := by decide +kernel
theorem dX5_init_19 : decode cX5_init 19 = .ok (.return_, 1) := by decide +kernel
theorem dX5_canTake_0 : decode cX5_canTake 0 = .ok (.aload_n 0, 1) := by decide +kernel
theorem dX5_canTake_1 : decode cX5_canTake 1 = .ok (.getfield 7, 3) := by decide +kernel
theorem dX5_canTake_4 : decode cX5_canTake 4 = .ok (.iload_n 1, 1) := by decide +kernel
theorem dX5_canTake_5 : decode cX5_canTake 5 = .ok (.iushr, 1) := by decide +kernel
theorem dX5_canTake_6 : decode cX5_canTake 6 = .ok (.iconst 1, 1) := by decide +kernel
theorem dX5_canTake_7 : decode cX5_canTake 7 = .ok (.iand, 1) := by decide +kernel
theorem dX5_canTake_8 : decode cX5_canTake 8 = .ok (.ifCond .eq 18, 3) := by decide +kernel
theorem dX5_canTake_11 : decode cX5_canTake 11 = .ok (.aload_n 0, 1) := by decide +kernel
theorem dX5_canTake_12 : decode cX5_canTake 12 = .ok (.getfield 19, 3) := by decide +kernel
theorem dX5_canTake_15 : decode cX5_canTake 15 = .ok (.aload_n 0, 1) := by decide +kernel
theorem dX5_canTake_16 : decode cX5_canTake 16 = .ok (.getfield 13, 3) := by decide +kernel
theorem dX5_canTake_19 : decode cX5_canTake 19 = .ok (.if_icmp .ge 7, 3) := by decide +kernel
theorem dX5_canTake_22 : decode cX5_canTake 22 = .ok (.iconst 1, 1) := by decide +kernel
theorem dX5_canTake_23 : decode cX5_canTake 23 = .ok (.goto 4, 3) := by decide +kernel
theorem dX5_canTake_26 : decode cX5_canTake 26 = .ok (.iconst 0, 1) := by decide +kernel
theorem dX5_canTake_27 : decode cX5_canTake 27 = .ok (.ireturn, 1) := by decide +kernel
theorem dX6_init_0 : decode cX6_init 0 = .ok (.aload_n 0, 1) := by decide +kernel
theorem dX6_init_1 : decode cX6_init 1 = .ok (.invokespecial 3, 3) := by decide +kernel
theorem dX6_init_4 : decode cX6_init 4 = .ok (.aload_n 0, 1) := by decide +kernel
theorem dX6_init_5 : decode cX6_init 5 = .ok (.bipush 24, 2) := by decide +kernel
theorem dX6_init_7 : decode cX6_init 7 = .ok (.anewarray 9, 3) := by decide +kernel
theorem dX6_init_10 : decode cX6_init 10 = .ok (.putfield 11, 3) := by decide +kernel
theorem dX6_init_13 : decode cX6_init 13 = .ok (.aload_n 0, 1) := by decide +kernel
theorem dX6_init_14 : decode cX6_init 14 = .ok (.bipush 8, 2) := by decide +kernel
theorem dX6_init_16 : decode cX6_init 16 = .ok (.anewarray 15, 3) := by decide +kernel
theorem dX6_init_19 : decode cX6_init 19 = .ok (.putfield 17, 3) := by decide +kernel
theorem dX6_init_22 : decode cX6_init 22 = .ok (.aload_n 0, 1) := by decide +kernel
theorem dX6_init_23 : decode cX6_init 23 = .ok (.iconst 3, 1) := by decide +kernel
theorem dX6_init_24 : decode cX6_init 24 = .ok (.newarray .int, 2) := by decide +kernel
theorem dX6_init_26 : decode cX6_init 26 = .ok (.dup, 1) := by decide +kernel
theorem dX6_init_27 : decode cX6_init 27 = .ok (.iconst 0, 1) := by decide +kernel
theorem dX6_init_28 : decode cX6_init 28 = .ok (.iconst 4, 1) := by decide +kernel
theorem dX6_init_29 : decode cX6_init 29 = .ok (.iastore, 1) := by decide +kernel
theorem dX6_init_30 : decode cX6_init 30 = .ok (.dup, 1) := by decide +kernel
theorem dX6_init_31 : decode cX6_init 31 = .ok (.iconst 1, 1) := by decide +kernel
theorem dX6_init_32 : decode cX6_init 32 = .ok (.bipush 6, 2) := by decide +kernel
theorem dX6_init_34 : decode cX6_init 34 = .ok (.iastore, 1) := by decide +kernel
theorem dX6_init_35 : decode cX6_init 35 = .ok (.dup, 1) := by decide +kernel
theorem dX6_init_36 : decode cX6_init 36 = .ok (.iconst 2, 1) := by decide +kernel
theorem dX6_init_37 : decode cX6_init 37 = .ok (.bipush 10, 2) := by decide +kernel
theorem dX6_init_39 : decode cX6_init 39 = .ok (.iastore, 1) := by decide +kernel
theorem dX6_init_40 : decode cX6_init 40 = .ok (.putfield 21, 3) := by decide +kernel
theorem dX6_init_43 : decode cX6_init 43 = .ok (.aload_n 0, 1) := by decide +kernel
theorem dX6_init_44 : decode cX6_init 44 = .ok (.iconst 3, 1) := by decide +kernel
theorem dX6_init_45 : decode cX6_init 45 = .ok (.newarray .int, 2) := by decide +kernel
theorem dX6_init_47 : decode cX6_init 47 = .ok (.dup, 1) := by decide +kernel
theorem dX6_init_48 : decode cX6_init 48 = .ok (.iconst 0, 1) := by decide +kernel
theorem dX6_init_49 : decode cX6_init 49 = .ok (.sipush 400, 3) := by decide +kernel
theorem dX6_init_52 : decode cX6_init 52 = .ok (.iastore, 1) := by decide +kernel
theorem dX6_init_53 : decode cX6_init 53 = .ok (.dup, 1) := by decide +kernel
theorem dX6_init_54 : decode cX6_init 54 = .ok (.iconst 1, 1) := by decide +kernel
theorem dX6_init_55 : decode cX6_init 55 = .ok (.sipush 300, 3) := by decide +kernel
theorem dX6_init_58 : decode cX6_init 58 = .ok (.iastore, 1) := by decide +kernel
theorem dX6_init_59 : decode cX6_init 59 = .ok (.dup, 1) := by decide +kernel
theorem dX6_init_60 : decode cX6_init 60 = .ok (.iconst 2, 1) := by decide +kernel
theorem dX6_init_61 : decode cX6_init 61 = .ok (.sipush 250, 3) := by decide +kernel
theorem dX6_init_64 : decode cX6_init 64 = .ok (.iastore, 1) := by decide +kernel
theorem dX6_init_65 : decode cX6_init 65 = .ok (.putfield 25, 3) := by decide +kernel
theorem dX6_init_68 : decode cX6_init 68 = .ok (.aload_n 0, 1) := by decide +kernel
theorem dX6_init_69 : decode cX6_init 69 = .ok (.bipush 20, 2) := by decide +kernel
theorem dX6_init_71 : decode cX6_init 71 = .ok (.putfield 28, 3) := by decide +kernel
theorem dX6_init_74 : decode cX6_init 74 = .ok (.aload_n 0, 1) := by decide +kernel
theorem dX6_init_75 : decode cX6_init 75 = .ok (.iconst 0, 1) := by decide +kernel
theorem dX6_init_76 : decode cX6_init 76 = .ok (.putfield 32, 3) := by decide +kernel
theorem dX6_init_79 : decode cX6_init 79 = .ok (.aload_n 0, 1) := by decide +kernel
theorem dX6_init_80 : decode cX6_init 80 = .ok (.iconst 5, 1) := by decide +kernel
theorem dX6_init_81 : decode cX6_init 81 = .ok (.newarray .int, 2) := by decide +kernel
theorem dX6_init_83 : decode cX6_init 83 = .ok (.putfield 35, 3) := by decide +kernel
theorem dX6_init_86 : decode cX6_init 86 = .ok (.aload_n 0, 1) := by decide +kernel
theorem dX6_init_87 : decode cX6_init 87 = .ok (.new 38, 3) := by decide +kernel
theorem dX6_init_90 : decode cX6_init 90 = .ok (.dup, 1) := by decide +kernel
theorem dX6_init_91 : decode cX6_init 91 = .ok (.invokespecial 40, 3) := by decide +kernel
theorem dX6_init_94 : decode cX6_init 94 = .ok (.putfield 41, 3) := by decide +kernel
theorem dX6_init_97 : decode cX6_init 97 = .ok (.aload_n 0, 1) := by decide +kernel
theorem dX6_init_98 : decode cX6_init 98 = .ok (.new 45, 3) := by decide +kernel
theorem dX6_init_101 : decode cX6_init 101 = .ok (.dup, 1) := by decide +kernel
theorem dX6_init_102 : decode cX6_init 102 = .ok (.invokespecial 47, 3) := by decide +kernel
theorem dX6_init_105 : decode cX6_init 105 = .ok (.putfield 48, 3) := by decide +kernel
theorem dX6_init_108 : decode cX6_init 108 = .ok (.aload_n 0, 1) := by decide +kernel
theorem dX6_init_109 : decode cX6_init 109 = .ok (.new 52, 3) := by decide +kernel
theorem dX6_init_112 : decode cX6_init 112 = .ok (.dup, 1) := by decide +kernel
theorem dX6_init_113 : decode cX6_init 113 = .ok (.invokespecial 54, 3) := by decide +kernel
theorem dX6_init_116 : decode cX6_init 116 = .ok (.putfield 55, 3) := by decide +kernel
theorem dX6_init_119 : decode cX6_init 119 = .ok (.aload_n 0, 1) := by decide +kernel
theorem dX6_init_120 : decode cX6_init 120 = .ok (.bipush 24, 2) := by decide +kernel
theorem dX6_init_122 : decode cX6_init 122 = .ok (.newarray .int, 2) := by decide +kernel
theorem dX6_init_124 : decode cX6_init 124 = .ok (.putfield 59, 3) := by decide +kernel
theorem dX6_init_127 : decode cX6_init 127 = .ok (.aload_n 0, 1) := by decide +kernel
theorem dX6_init_128 : decode cX6_init 128 = .ok (.bipush 50, 2) := by decide +kernel
theorem dX6_init_130 : decode cX6_init 130 = .ok (.newarray .int, 2) := by decide +kernel
theorem dX6_init_132 : decode cX6_init 132 = .ok (.putfield 62, 3) := by decide +kernel
theorem dX6_init_135 : decode cX6_init 135 = .ok (.return_, 1) := by decide +kernel
theorem dX6_addChild_0 : decode cX6_addChild 0 = .ok (.iload_n 1, 1) := by decide +kernel
theorem dX6_addChild_1 : decode cX6_addChild 1 = .ok (.iconst 3, 1) := by decide +kernel
theorem dX6_addChild_2 : decode cX6_addChild 2 = .ok (.if_icmp .lt 19, 3) := by decide +kernel
theorem dX6_addChild_5 : decode cX6_addChild 5 = .ok (.iload_n 1, 1) := by decide +kernel
theorem dX6_addChild_6 : decode cX6_addChild 6 = .ok (.bipush 78, 2) := by decide +kernel
theorem dX6_addChild_8 : decode cX6_addChild 8 = .ok (.if_icmp .ge 13, 3) := by decide +kernel
theorem dX6_addChild_11 : decode cX6_addChild 11 = .ok (.iload_n 2, 1) := by decide +kernel
theorem dX6_addChild_12 : decode cX6_addChild 12 = .ok (.ifCond .lt 9, 3) := by decide +kernel
theorem dX6_addChild_15 : decode cX6_addChild 15 = .ok (.iload_n 2, 1) := by decide +kernel
theorem dX6_addChild_16 : decode cX6_addChild 16 = .ok (.bipush 12, 2) := by decide +kernel
theorem dX6_addChild_18 : decode cX6_addChild 18 = .ok (.if_icmp .lt 5, 3) := by decide +kernel
theorem dX6_addChild_21 : decode cX6_addChild 21 = .ok (.iconst (-1), 1) := by decide +kernel
theorem dX6_addChild_22 : decode cX6_addChild 22 = .ok (.ireturn, 1) := by decide +kernel
theorem dX6_addChild_23 : decode cX6_addChild 23 = .ok (.iconst 0, 1) := by decide +kernel
theorem dX6_addChild_24 : decode cX6_addChild 24 = .ok (.istore_n 3, 1) := by decide +kernel
theorem dX6_addChild_25 : decode cX6_addChild 25 = .ok (.iload_n 3, 1) := by decide +kernel
theorem dX6_addChild_26 : decode cX6_addChild 26 = .ok (.aload_n 0, 1) := by decide +kernel
theorem dX6_addChild_27 : decode cX6_addChild 27 = .ok (.getfield 11, 3) := by decide +kernel
theorem dX6_addChild_30 : decode cX6_addChild 30 = .ok (.arraylength, 1) := by decide +kernel
theorem dX6_addChild_31 : decode cX6_addChild 31 = .ok (.if_icmp .ge 35, 3) := by decide +kernel
theorem dX6_addChild_34 : decode cX6_addChild 34 = .ok (.aload_n 0, 1) := by decide +kernel
theorem dX6_addChild_35 : decode cX6_addChild 35 = .ok (.getfield 11, 3) := by decide +kernel
theorem dX6_addChild_38 : decode cX6_addChild 38 = .ok (.iload_n 3, 1) := by decide +kernel
theorem dX6_addChild_39 : decode cX6_addChild 39 = .ok (.aaload, 1) := by decide +kernel
theorem dX6_addChild_40 : decode cX6_addChild 40 = .ok (.ifnonnull 20, 3) := by decide +kernel
theorem dX6_addChild_43 : decode cX6_addChild 43 = .ok (.aload_n 0, 1) := by decide +kernel
theorem dX6_addChild_44 : decode cX6_addChild 44 = .ok (.getfield 11, 3) := by decide +kernel
theorem dX6_addChild_47 : decode cX6_addChild 47 = .ok (.iload_n 3, 1) := by decide +kernel
theorem dX6_addChild_48 : decode cX6_addChild 48 = .ok (.new 9, 3) := by decide +kernel
theorem dX6_addChild_51 : decode cX6_addChild 51 = .ok (.dup, 1) := by decide +kernel
theorem dX6_addChild_52 : decode cX6_addChild 52 = .ok (.iload_n 1, 1) := by decide +kernel
theorem dX6_addChild_53 : decode cX6_addChild 53 = .ok (.iload_n 2, 1) := by decide +kernel
theorem dX6_addChild_54 : decode cX6_addChild 54 = .ok (.invokespecial 65, 3) := by decide +kernel
theorem dX6_addChild_57 : decode cX6_addChild 57 = .ok (.aastore, 1) := by decide +kernel
theorem dX6_addChild_58 : decode cX6_addChild 58 = .ok (.iload_n 3, 1) := by decide +kernel
theorem dX6_addChild_59 : decode cX6_addChild 59 = .ok (.ireturn, 1) := by decide +kernel
theorem dX6_addChild_60 : decode cX6_addChild 60 = .ok (.iinc 3 1, 3) := by decide +kernel
theorem dX6_addChild_63 : decode cX6_addChild 63 = .ok (.goto (-38), 3) := by decide +kernel
theorem dX6_addChild_66 : decode cX6_addChild 66 = .ok (.bipush (-3), 2) := by decide +kernel
theorem dX6_addChild_68 : decode cX6_addChild 68 = .ok (.ireturn, 1) := by decide +kernel
theorem dX6_removeChild_0 : decode cX6_removeChild 0 = .ok (.aload_n 0, 1) := by decide +kernel
theorem dX6_removeChild_1 : decode cX6_removeChild 1 = .ok (.iload_n 1, 1) := by decide +kernel
theorem dX6_removeChild_2 : decode cX6_removeChild 2 = .ok (.invokevirtual 68, 3) := by decide +kernel
theorem dX6_removeChild_5 : decode cX6_removeChild 5 = .ok (.ifnonnull 5, 3) := by decide +kernel
theorem dX6_removeChild_8 : decode cX6_removeChild 8 = .ok (.iconst (-1), 1) := by decide +kernel
theorem dX6_removeChild_9 : decode cX6_removeChild 9 = .ok (.ireturn, 1) := by decide +kernel
theorem dX6_removeChild_10 : decode cX6_removeChild 10 = .ok (.aload_n 0, 1) := by decide +kernel
theorem dX6_removeChild_11 : decode cX6_removeChild 11 = .ok (.getfield 11, 3) := by decide +kernel
theorem dX6_removeChild_14 : decode cX6_removeChild 14 = .ok (.iload_n 1, 1) := by decide +kernel
theorem dX6_removeChild_15 : decode cX6_removeChild 15 = .ok (.aconst_null, 1) := by decide +kernel
theorem dX6_removeChild_16 : decode cX6_removeChild 16 = .ok (.aastore, 1) := by decide +kernel
theorem dX6_removeChild_17 : decode cX6_removeChild 17 = .ok (.aload_n 0, 1) := by decide +kernel
theorem dX6_removeChild_18 : decode cX6_removeChild 18 = .ok (.invokevirtual 72, 3) := by decide +kernel
theorem dX6_removeChild_21 : decode cX6_removeChild 21 = .ok (.ireturn, 1) := by decide +kernel
theorem dX6_children_0 : decode cX6_children 0 = .ok (.iconst 0, 1) := by decide +kernel
theorem dX6_children_1 : decode cX6_children 1 = .ok (.istore_n 1, 1) := by decide +kernel
theorem dX6_children_2 : decode cX6_children 2 = .ok (.aload_n 0, 1) := by decide +kernel
theorem dX6_children_3 : decode cX6_children 3 = .ok (.getfield 11, 3) := by decide +kernel
theorem dX6_children_6 : decode cX6_children 6 = .ok (.astore_n 2, 1) := by decide +kernel
theorem dX6_children_7 : decode cX6_children 7 = .ok (.aload_n 2, 1) := by decide +kernel
theorem dX6_children_8 : decode cX6_children 8 = .ok (.arraylength, 1) := by decide +kernel
theorem dX6_children_9 : decode cX6_children 9 = .ok (.istore_n 3, 1) := by decide +kernel
theorem dX6_children_10 : decode cX6_children 10 = .ok (.iconst 0, 1) := by decide +kernel
theorem dX6_children_11 : decode cX6_children 11 = .ok (.istore 4, 2) := by decide +kernel
theorem dX6_children_13 : decode cX6_children 13 = .ok (.iload 4, 2) := by decide +kernel
theorem dX6_children_15 : decode cX6_children 15 = .ok (.iload_n 3, 1) := by decide +kernel
theorem dX6_children_16 : decode cX6_children 16 = .ok (.if_icmp .ge 23, 3) := by decide +kernel
theorem dX6_children_19 : decode cX6_children 19 = .ok (.aload_n 2, 1) := by decide +kernel
theorem dX6_children_20 : decode cX6_children 20 = .ok (.iload 4, 2) := by decide +kernel
theorem dX6_children_22 : decode cX6_children 22 = .ok (.aaload, 1) := by decide +kernel
theorem dX6_children_23 : decode cX6_children 23 = .ok (.astore 5, 2) := by decide +kernel
theorem dX6_children_25 : decode cX6_children 25 = .ok (.aload 5, 2) := by decide +kernel
theorem dX6_children_27 : decode cX6_children 27 = .ok (.ifnull 6, 3) := by decide +kernel
theorem dX6_children_30 : decode cX6_children 30 = .ok (.iinc 1 1, 3) := by decide +kernel
theorem dX6_children_33 : decode cX6_children 33 = .ok (.iinc 4 1, 3) := by decide +kernel
theorem dX6_children_36 : decode cX6_children 36 = .ok (.goto (-23), 3) := by decide +kernel
theorem dX6_children_39 : decode cX6_children 39 = .ok (.iload_n 1, 1) := by decide +kernel
theorem dX6_children_40 : decode cX6_children 40 = .ok (.ireturn, 1) := by decide +kernel
theorem dX6_age_0 : decode cX6_age 0 = .ok (.aload_n 0, 1) := by decide +kernel
theorem dX6_age_1 : decode cX6_age 1 = .ok (.iload_n 1, 1) := by decide +kernel
theorem dX6_age_2 : decode cX6_age 2 = .ok (.invokevirtual 68, 3) := by decide +kernel
theorem dX6_age_5 : decode cX6_age 5 = .ok (.astore_n 2, 1) := by decide +kernel
theorem dX6_age_6 : decode cX6_age 6 = .ok (.aload_n 2, 1) := by decide +kernel
theorem dX6_age_7 : decode cX6_age 7 = .ok (.ifnonnull 7, 3) := by decide +kernel
theorem dX6_age_10 : decode cX6_age 10 = .ok (.iconst (-1), 1) := by decide +kernel
theorem dX6_age_11 : decode cX6_age 11 = .ok (.goto 7, 3) := by decide +kernel
theorem dX6_age_14 : decode cX6_age 14 = .ok (.aload_n 2, 1) := by decide +kernel
theorem dX6_age_15 : decode cX6_age 15 = .ok (.getfield 75, 3) := by decide +kernel
theorem dX6_age_18 : decode cX6_age 18 = .ok (.ireturn, 1) := by decide +kernel
theorem dX6_isAdmitted_0 : decode cX6_isAdmitted 0 = .ok (.aload_n 0, 1) := by decide +kernel
theorem dX6_isAdmitted_1 : decode cX6_isAdmitted 1 = .ok (.iload_n 1, 1) := by decide +kernel
theorem dX6_isAdmitted_2 : decode cX6_isAdmitted 2 = .ok (.invokevirtual 68, 3) := by decide +kernel
theorem dX6_isAdmitted_5 : decode cX6_isAdmitted 5 = .ok (.astore_n 2, 1) := by decide +kernel
theorem dX6_isAdmitted_6 : decode cX6_isAdmitted 6 = .ok (.aload_n 2, 1) := by decide +kernel
theorem dX6_isAdmitted_7 : decode cX6_isAdmitted 7 = .ok (.ifnonnull 5, 3) := by decide +kernel
theorem dX6_isAdmitted_10 : decode cX6_isAdmitted 10 = .ok (.iconst (-1), 1) := by decide +kernel
theorem dX6_isAdmitted_11 : decode cX6_isAdmitted 11 = .ok (.ireturn, 1) := by decide +kernel
theorem dX6_isAdmitted_12 : decode cX6_isAdmitted 12 = .ok (.aload_n 2, 1) := by decide +kernel
theorem dX6_isAdmitted_13 : decode cX6_isAdmitted 13 = .ok (.getfield 78, 3) := by decide +kernel
theorem dX6_isAdmitted_16 : decode cX6_isAdmitted 16 = .ok (.ifCond .eq 7, 3) := by decide +kernel
theorem dX6_isAdmitted_19 : decode cX6_isAdmitted 19 = .ok (.iconst 1, 1) := by decide +kernel
theorem dX6_isAdmitted_20 : decode cX6_isAdmitted 20 = .ok (.goto 4, 3) := by decide +kernel
theorem dX6_isAdmitted_23 : decode cX6_isAdmitted 23 = .ok (.iconst 0, 1) := by decide +kernel
theorem dX6_isAdmitted_24 : decode cX6_isAdmitted 24 = .ok (.ireturn, 1) := by decide +kernel
theorem dX6_hours_0 : decode cX6_hours 0 = .ok (.aload_n 0, 1) := by decide +kernel
theorem dX6_hours_1 : decode cX6_hours 1 = .ok (.iload_n 1, 1) := by decide +kernel
theorem dX6_hours_2 : decode cX6_hours 2 = .ok (.invokevirtual 68, 3) := by decide +kernel
theorem dX6_hours_5 : decode cX6_hours 5 = .ok (.astore_n 2, 1) := by decide +kernel
theorem dX6_hours_6 : decode cX6_hours 6 = .ok (.aload_n 2, 1) := by decide +kernel
theorem dX6_hours_7 : decode cX6_hours 7 = .ok (.ifnonnull 7, 3) := by decide +kernel
theorem dX6_hours_10 : decode cX6_hours 10 = .ok (.iconst (-1), 1) := by decide +kernel
theorem dX6_hours_11 : decode cX6_hours 11 = .ok (.goto 7, 3) := by decide +kernel
theorem dX6_hours_14 : decode cX6_hours 14 = .ok (.aload_n 2, 1) := by decide +kernel
theorem dX6_hours_15 : decode cX6_hours 15 = .ok (.invokevirtual 82, 3) := by decide +kernel
theorem dX6_hours_18 : decode cX6_hours 18 = .ok (.ireturn, 1) := by decide +kernel
theorem dX6_book_0 : decode cX6_book 0 = .ok (.aload_n 0, 1) := by decide +kernel
theorem dX6_book_1 : decode cX6_book 1 = .ok (.iload_n 1, 1) := by decide +kernel
theorem dX6_book_2 : decode cX6_book 2 = .ok (.invokevirtual 68, 3) := by decide +kernel
theorem dX6_book_5 : decode cX6_book 5 = .ok (.astore 5, 2) := by decide +kernel
theorem dX6_book_7 : decode cX6_book 7 = .ok (.aload 5, 2) := by decide +kernel
theorem dX6_book_9 : decode cX6_book 9 = .ok (.ifnull 19, 3) := by decide +kernel
theorem dX6_book_12 : decode cX6_book 12 = .ok (.iload_n 2, 1) := by decide +kernel
theorem dX6_book_13 : decode cX6_book 13 = .ok (.invokestatic 85, 3) := by decide +kernel
theorem dX6_book_16 : decode cX6_book 16 = .ok (.ifCond .eq 12, 3) := by decide +kernel
theorem dX6_book_19 : decode cX6_book 19 = .ok (.iload_n 3, 1) := by decide +kernel
theorem dX6_book_20 : decode cX6_book 20 = .ok (.iload 4, 2) := by decide +kernel
theorem dX6_book_22 : decode cX6_book 22 = .ok (.invokestatic 89, 3) := by decide +kernel
theorem dX6_book_25 : decode cX6_book 25 = .ok (.ifCond .ne 5, 3) := by decide +kernel
theorem dX6_book_28 : decode cX6_book 28 = .ok (.iconst (-1), 1) := by decide +kernel
theorem dX6_book_29 : decode cX6_book 29 = .ok (.ireturn, 1) := by decide +kernel
theorem dX6_book_30 : decode cX6_book 30 = .ok (.aload_n 0, 1) := by decide +kernel
theorem dX6_book_31 : decode cX6_book 31 = .ok (.aload 5, 2) := by decide +kernel
theorem dX6_book_33 : decode cX6_book 33 = .ok (.aload 5, 2) := by decide +kernel
theorem dX6_book_35 : decode cX6_book 35 = .ok (.getfield 93, 3) := by decide +kernel
theorem dX6_book_38 : decode cX6_book 38 = .ok (.iload_n 2, 1) := by decide +kernel
theorem dX6_book_39 : decode cX6_book 39 = .ok (.iload_n 3, 1) := by decide +kernel
theorem dX6_book_40 : decode cX6_book 40 = .ok (.iload 4, 2) := by decide +kernel
theorem dX6_book_42 : decode cX6_book 42 = .ok (.invokestatic 97, 3) := by decide +kernel
theorem dX6_book_45 : decode cX6_book 45 = .ok (.invokevirtual 101, 3) := by decide +kernel
theorem dX6_book_48 : decode cX6_book 48 = .ok (.ireturn, 1) := by decide +kernel
theorem dX6_nextMonth_0 : decode cX6_nextMonth 0 = .ok (.aload_n 0, 1) := by decide +kernel
theorem dX6_nextMonth_1 : decode cX6_nextMonth 1 = .ok (.dup, 1) := by decide +kernel
theorem dX6_nextMonth_2 : decode cX6_nextMonth 2 = .ok (.getfield 32, 3) := by decide +kernel
theorem dX6_nextMonth_5 : decode cX6_nextMonth 5 = .ok (.iconst 1, 1) := by decide +kernel
theorem dX6_nextMonth_6 : decode cX6_nextMonth 6 = .ok (.iadd, 1) := by decide +kernel
theorem dX6_nextMonth_7 : decode cX6_nextMonth 7 = .ok (.putfield 32, 3) := by decide +kernel
theorem dX6_nextMonth_10 : decode cX6_nextMonth 10 = .ok (.iconst 0, 1) := by decide +kernel
theorem dX6_nextMonth_11 : decode cX6_nextMonth 11 = .ok (.istore_n 1, 1) := by decide +kernel
theorem dX6_nextMonth_12 : decode cX6_nextMonth 12 = .ok (.iload_n 1, 1) := by decide +kernel
theorem dX6_nextMonth_13 : decode cX6_nextMonth 13 = .ok (.aload_n 0, 1) := by decide +kernel
theorem dX6_nextMonth_14 : decode cX6_nextMonth 14 = .ok (.getfield 11, 3) := by decide +kernel
theorem dX6_nextMonth_17 : decode cX6_nextMonth 17 = .ok (.arraylength, 1) := by decide +kernel
theorem dX6_nextMonth_18 : decode cX6_nextMonth 18 = .ok (.if_icmp .ge 40, 3) := by decide +kernel
theorem dX6_nextMonth_21 : decode cX6_nextMonth 21 = .ok (.aload_n 0, 1) := by decide +kernel
theorem dX6_nextMonth_22 : decode cX6_nextMonth 22 = .ok (.getfield 11, 3) := by decide +kernel
theorem dX6_nextMonth_25 : decode cX6_nextMonth 25 = .ok (.iload_n 1, 1) := by decide +kernel
theorem dX6_nextMonth_26 : decode cX6_nextMonth 26 = .ok (.aaload, 1) := by decide +kernel
theorem dX6_nextMonth_27 : decode cX6_nextMonth 27 = .ok (.astore_n 2, 1) := by decide +kernel
theorem dX6_nextMonth_28 : decode cX6_nextMonth 28 = .ok (.aload_n 2, 1) := by decide +kernel
theorem dX6_nextMonth_29 : decode cX6_nextMonth 29 = .ok (.ifnull 23, 3) := by decide +kernel
theorem dX6_nextMonth_32 : decode cX6_nextMonth 32 = .ok (.aload_n 2, 1) := by decide +kernel
theorem dX6_nextMonth_33 : decode cX6_nextMonth 33 = .ok (.invokevirtual 105, 3) := by decide +kernel
theorem dX6_nextMonth_36 : decode cX6_nextMonth 36 = .ok (.aload_n 2, 1) := by decide +kernel
theorem dX6_nextMonth_37 : decode cX6_nextMonth 37 = .ok (.getfield 75, 3) := by decide +kernel
theorem dX6_nextMonth_40 : decode cX6_nextMonth 40 = .ok (.bipush 78, 2) := by decide +kernel
theorem dX6_nextMonth_42 : decode cX6_nextMonth 42 = .ok (.if_icmp .lt 10, 3) := by decide +kernel
theorem dX6_nextMonth_45 : decode cX6_nextMonth 45 = .ok (.aload_n 0, 1) := by decide +kernel
theorem dX6_nextMonth_46 : decode cX6_nextMonth 46 = .ok (.getfield 11, 3) := by decide +kernel
theorem dX6_nextMonth_49 : decode cX6_nextMonth 49 = .ok (.iload_n 1, 1) := by decide +kernel
theorem dX6_nextMonth_50 : decode cX6_nextMonth 50 = .ok (.aconst_null, 1) := by decide +kernel
theorem dX6_nextMonth_51 : decode cX6_nextMonth 51 = .ok (.aastore, 1) := by decide +kernel
theorem dX6_nextMonth_52 : decode cX6_nextMonth 52 = .ok (.iinc 1 1, 3) := by decide +kernel
theorem dX6_nextMonth_55 : decode cX6_nextMonth 55 = .ok (.goto (-43), 3) := by decide +kernel
theorem dX6_nextMonth_58 : decode cX6_nextMonth 58 = .ok (.aload_n 0, 1) := by decide +kernel
theorem dX6_nextMonth_59 : decode cX6_nextMonth 59 = .ok (.getfield 32, 3) := by decide +kernel
theorem dX6_nextMonth_62 : decode cX6_nextMonth 62 = .ok (.ireturn, 1) := by decide +kernel
theorem dX6_childAt_0 : decode cX6_childAt 0 = .ok (.iload_n 1, 1) := by decide +kernel
theorem dX6_childAt_1 : decode cX6_childAt 1 = .ok (.ifCond .lt 12, 3) := by decide +kernel
theorem dX6_childAt_4 : decode cX6_childAt 4 = .ok (.iload_n 1, 1) := by decide +kernel
theorem dX6_childAt_5 : decode cX6_childAt 5 = .ok (.aload_n 0, 1) := by decide +kernel
theorem dX6_childAt_6 : decode cX6_childAt 6 = .ok (.getfield 11, 3) := by decide +kernel
theorem dX6_childAt_9 : decode cX6_childAt 9 = .ok (.arraylength, 1) := by decide +kernel
theorem dX6_childAt_10 : decode cX6_childAt 10 = .ok (.if_icmp .lt 5, 3) := by decide +kernel
theorem dX6_childAt_13 : decode cX6_childAt 13 = .ok (.aconst_null, 1) := by decide +kernel
theorem dX6_childAt_14 : decode cX6_childAt 14 = .ok (.areturn, 1) := by decide +kernel
theorem dX6_childAt_15 : decode cX6_childAt 15 = .ok (.aload_n 0, 1) := by decide +kernel
theorem dX6_childAt_16 : decode cX6_childAt 16 = .ok (.getfield 11, 3) := by decide +kernel
theorem dX6_childAt_19 : decode cX6_childAt 19 = .ok (.iload_n 1, 1) := by decide +kernel
theorem dX6_childAt_20 : decode cX6_childAt 20 = .ok (.aaload, 1) := by decide +kernel
theorem dX6_childAt_21 : decode cX6_childAt 21 = .ok (.areturn, 1) := by decide +kernel
theorem dX6_rebook_0 : decode cX6_rebook 0 = .ok (.lload_n 2, 1) := by decide +kernel
theorem dX6_rebook_1 : decode cX6_rebook 1 = .ok (.aload_n 1, 1) := by decide +kernel
theorem dX6_rebook_2 : decode cX6_rebook 2 = .ok (.getfield 93, 3) := by decide +kernel
theorem dX6_rebook_5 : decode cX6_rebook 5 = .ok (.ldc2_w 108, 3) := by decide +kernel
theorem dX6_rebook_8 : decode cX6_rebook 8 = .ok (.lxor, 1) := by decide +kernel
theorem dX6_rebook_9 : decode cX6_rebook 9 = .ok (.land, 1) := by decide +kernel
theorem dX6_rebook_10 : decode cX6_rebook 10 = .ok (.lstore 4, 2) := by decide +kernel
theorem dX6_rebook_12 : decode cX6_rebook 12 = .ok (.aload_n 1, 1) := by decide +kernel
theorem dX6_rebook_13 : decode cX6_rebook 13 = .ok (.getfield 78, 3) := by decide +kernel
theorem dX6_rebook_16 : decode cX6_rebook 16 = .ok (.ifCond .eq 16, 3) := by decide +kernel
theorem dX6_rebook_19 : decode cX6_rebook 19 = .ok (.aload_n 0, 1) := by decide +kernel
theorem dX6_rebook_20 : decode cX6_rebook 20 = .ok (.lload 4, 2) := by decide +kernel
theorem dX6_rebook_22 : decode cX6_rebook 22 = .ok (.aload_n 1, 1) := by decide +kernel
theorem dX6_rebook_23 : decode cX6_rebook 23 = .ok (.invokevirtual 110, 3) := by decide +kernel
theorem dX6_rebook_26 : decode cX6_rebook 26 = .ok (.ifCond .ne 6, 3) := by decide +kernel
theorem dX6_rebook_29 : decode cX6_rebook 29 = .ok (.bipush (-3), 2) := by decide +kernel
theorem dX6_rebook_31 : decode cX6_rebook 31 = .ok (.ireturn, 1) := by decide +kernel
theorem dX6_rebook_32 : decode cX6_rebook 32 = .ok (.aload_n 1, 1) := by decide +kernel
theorem dX6_rebook_33 : decode cX6_rebook 33 = .ok (.lload_n 2, 1) := by decide +kernel
theorem dX6_rebook_34 : decode cX6_rebook 34 = .ok (.putfield 93, 3) := by decide +kernel
theorem dX6_rebook_37 : decode cX6_rebook 37 = .ok (.aload_n 1, 1) := by decide +kernel
theorem dX6_rebook_38 : decode cX6_rebook 38 = .ok (.invokevirtual 82, 3) := by decide +kernel
theorem dX6_rebook_41 : decode cX6_rebook 41 = .ok (.ireturn, 1) := by decide +kernel
theorem dX6_waited_0 : decode cX6_waited 0 = .ok (.aload_n 0, 1) := by decide +kernel
theorem dX6_waited_1 : decode cX6_waited 1 = .ok (.iload_n 1, 1) := by decide +kernel
theorem dX6_waited_2 : decode cX6_waited 2 = .ok (.invokevirtual 68, 3) := by decide +kernel
theorem dX6_waited_5 : decode cX6_waited 5 = .ok (.astore_n 2, 1) := by decide +kernel
theorem dX6_waited_6 : decode cX6_waited 6 = .ok (.aload_n 2, 1) := by decide +kernel
theorem dX6_waited_7 : decode cX6_waited 7 = .ok (.ifnonnull 5, 3) := by decide +kernel
theorem dX6_waited_10 : decode cX6_waited 10 = .ok (.iconst (-1), 1) := by decide +kernel
theorem dX6_waited_11 : decode cX6_waited 11 = .ok (.ireturn, 1) := by decide +kernel
theorem dX6_waited_12 : decode cX6_waited 12 = .ok (.aload_n 2, 1) := by decide +kernel
theorem dX6_waited_13 : decode cX6_waited 13 = .ok (.getfield 78, 3) := by decide +kernel
theorem dX6_waited_16 : decode cX6_waited 16 = .ok (.ifCond .eq 8, 3) := by decide +kernel
theorem dX6_waited_19 : decode cX6_waited 19 = .ok (.bipush (-2), 2) := by decide +kernel
theorem dX6_waited_21 : decode cX6_waited 21 = .ok (.goto 7, 3) := by decide +kernel
theorem dX6_waited_24 : decode cX6_waited 24 = .ok (.aload_n 2, 1) := by decide +kernel
theorem dX6_waited_25 : decode cX6_waited 25 = .ok (.getfield 114, 3) := by decide +kernel
theorem dX6_waited_28 : decode cX6_waited 28 = .ok (.ireturn, 1) := by decide +kernel
theorem dX6_points_0 : decode cX6_points 0 = .ok (.aload_n 0, 1) := by decide +kernel
theorem dX6_points_1 : decode cX6_points 1 = .ok (.iload_n 1, 1) := by decide +kernel
theorem dX6_points_2 : decode cX6_points 2 = .ok (.invokevirtual 68, 3) := by decide +kernel
theorem dX6_points_5 : decode cX6_points 5 = .ok (.astore_n 2, 1) := by decide +kernel
theorem dX6_points_6 : decode cX6_points 6 = .ok (.aload_n 2, 1) := by decide +kernel
theorem dX6_points_7 : decode cX6_points 7 = .ok (.ifnonnull 5, 3) := by decide +kernel
theorem dX6_points_10 : decode cX6_points 10 = .ok (.iconst (-1), 1) := by decide +kernel
theorem dX6_points_11 : decode cX6_points 11 = .ok (.ireturn, 1) := by decide +kernel
theorem dX6_points_12 : decode cX6_points 12 = .ok (.aload_n 2, 1) := by decide +kernel
theorem dX6_points_13 : decode cX6_points 13 = .ok (.getfield 78, 3) := by decide +kernel
theorem dX6_points_16 : decode cX6_points 16 = .ok (.ifCond .eq 8, 3) := by decide +kernel
theorem dX6_points_19 : decode cX6_points 19 = .ok (.bipush (-2), 2) := by decide +kernel
theorem dX6_points_21 : decode cX6_points 21 = .ok (.goto 8, 3) := by decide +kernel
theorem dX6_points_24 : decode cX6_points 24 = .ok (.aload_n 0, 1) := by decide +kernel
theorem dX6_points_25 : decode cX6_points 25 = .ok (.aload_n 2, 1) := by decide +kernel
theorem dX6_points_26 : decode cX6_points 26 = .ok (.invokevirtual 117, 3) := by decide +kernel
theorem dX6_points_29 : decode cX6_points 29 = .ok (.ireturn, 1) := by decide +kernel
theorem dX6_waiting_0 : decode cX6_waiting 0 = .ok (.iload_n 1, 1) := by decide +kernel
theorem dX6_waiting_1 : decode cX6_waiting 1 = .ok (.ifCond .ge 5, 3) := by decide +kernel
theorem dX6_waiting_4 : decode cX6_waiting 4 = .ok (.iconst (-1), 1) := by decide +kernel
theorem dX6_waiting_5 : decode cX6_waiting 5 = .ok (.ireturn, 1) := by decide +kernel
theorem dX6_waiting_6 : decode cX6_waiting 6 = .ok (.aload_n 0, 1) := by decide +kernel
theorem dX6_waiting_7 : decode cX6_waiting 7 = .ok (.invokevirtual 121, 3) := by decide +kernel
theorem dX6_waiting_10 : decode cX6_waiting 10 = .ok (.iconst 0, 1) := by decide +kernel
theorem dX6_waiting_11 : decode cX6_waiting 11 = .ok (.istore_n 2, 1) := by decide +kernel
theorem dX6_waiting_12 : decode cX6_waiting 12 = .ok (.iload_n 2, 1) := by decide +kernel
theorem dX6_waiting_13 : decode cX6_waiting 13 = .ok (.aload_n 0, 1) := by decide +kernel
theorem dX6_waiting_14 : decode cX6_waiting 14 = .ok (.getfield 59, 3) := by decide +kernel
theorem dX6_waiting_17 : decode cX6_waiting 17 = .ok (.arraylength, 1) := by decide +kernel
theorem dX6_waiting_18 : decode cX6_waiting 18 = .ok (.if_icmp .ge 32, 3) := by decide +kernel
theorem dX6_waiting_21 : decode cX6_waiting 21 = .ok (.aload_n 0, 1) := by decide +kernel
theorem dX6_waiting_22 : decode cX6_waiting 22 = .ok (.getfield 59, 3) := by decide +kernel
theorem dX6_waiting_25 : decode cX6_waiting 25 = .ok (.iload_n 2, 1) := by decide +kernel
theorem dX6_waiting_26 : decode cX6_waiting 26 = .ok (.iaload, 1) := by decide +kernel
theorem dX6_waiting_27 : decode cX6_waiting 27 = .ok (.istore_n 3, 1) := by decide +kernel
theorem dX6_waiting_28 : decode cX6_waiting 28 = .ok (.iload_n 3, 1) := by decide +kernel
theorem dX6_waiting_29 : decode cX6_waiting 29 = .ok (.iconst (-1), 1) := by decide +kernel
theorem dX6_waiting_30 : decode cX6_waiting 30 = .ok (.if_icmp .eq 14, 3) := by decide +kernel
theorem dX6_waiting_33 : decode cX6_waiting 33 = .ok (.aload_n 0, 1) := by decide +kernel
theorem dX6_waiting_34 : decode cX6_waiting 34 = .ok (.iload_n 3, 1) := by decide +kernel
theorem dX6_waiting_35 : decode cX6_waiting 35 = .ok (.invokevirtual 124, 3) := by decide +kernel
theorem dX6_waiting_38 : decode cX6_waiting 38 = .ok (.iload_n 1, 1) := by decide +kernel
theorem dX6_waiting_39 : decode cX6_waiting 39 = .ok (.if_icmp .ne 5, 3) := by decide +kernel
theorem dX6_waiting_42 : decode cX6_waiting 42 = .ok (.iload_n 2, 1) := by decide +kernel
theorem dX6_waiting_43 : decode cX6_waiting 43 = .ok (.ireturn, 1) := by decide +kernel
theorem dX6_waiting_44 : decode cX6_waiting 44 = .ok (.iinc 2 1, 3) := by decide +kernel
theorem dX6_waiting_47 : decode cX6_waiting 47 = .ok (.goto (-35), 3) := by decide +kernel
theorem dX6_waiting_50 : decode cX6_waiting 50 = .ok (.bipush (-9), 2) := by decide +kernel
theorem dX6_waiting_52 : decode cX6_waiting 52 = .ok (.ireturn, 1) := by decide +kernel
theorem dX6_admit_0 : decode cX6_admit 0 = .ok (.iconst 0, 1) := by decide +kernel
theorem dX6_admit_1 : decode cX6_admit 1 = .ok (.istore_n 1, 1) := by decide +kernel
theorem dX6_admit_2 : decode cX6_admit 2 = .ok (.iconst 0, 1) := by decide +kernel
theorem dX6_admit_3 : decode cX6_admit 3 = .ok (.istore_n 2, 1) := by decide +kernel
theorem dX6_admit_4 : decode cX6_admit 4 = .ok (.iload_n 2, 1) := by decide +kernel
theorem dX6_admit_5 : decode cX6_admit 5 = .ok (.bipush 24, 2) := by decide +kernel
theorem dX6_admit_7 : decode cX6_admit 7 = .ok (.if_icmp .ge 29, 3) := by decide +kernel
theorem dX6_admit_10 : decode cX6_admit 10 = .ok (.aload_n 0, 1) := by decide +kernel
theorem dX6_admit_11 : decode cX6_admit 11 = .ok (.invokevirtual 128, 3) := by decide +kernel
theorem dX6_admit_14 : decode cX6_admit 14 = .ok (.astore_n 3, 1) := by decide +kernel
theorem dX6_admit_15 : decode cX6_admit 15 = .ok (.aload_n 3, 1) := by decide +kernel
theorem dX6_admit_16 : decode cX6_admit 16 = .ok (.ifnonnull 6, 3) := by decide +kernel
theorem dX6_admit_19 : decode cX6_admit 19 = .ok (.goto 17, 3) := by decide +kernel
theorem dX6_admit_22 : decode cX6_admit 22 = .ok (.aload_n 3, 1) := by decide +kernel
theorem dX6_admit_23 : decode cX6_admit 23 = .ok (.iconst 1, 1) := by decide +kernel
theorem dX6_admit_24 : decode cX6_admit 24 = .ok (.putfield 78, 3) := by decide +kernel
theorem dX6_admit_27 : decode cX6_admit 27 = .ok (.iinc 1 1, 3) := by decide +kernel
theorem dX6_admit_30 : decode cX6_admit 30 = .ok (.iinc 2 1, 3) := by decide +kernel
theorem dX6_admit_33 : decode cX6_admit 33 = .ok (.goto (-29), 3) := by decide +kernel
theorem dX6_admit_36 : decode cX6_admit 36 = .ok (.iload_n 1, 1) := by decide +kernel
theorem dX6_admit_37 : decode cX6_admit 37 = .ok (.ireturn, 1) := by decide +kernel
theorem dX6_release_0 : decode cX6_release 0 = .ok (.aload_n 0, 1) := by decide +kernel
theorem dX6_release_1 : decode cX6_release 1 = .ok (.iload_n 1, 1) := by decide +kernel
theorem dX6_release_2 : decode cX6_release 2 = .ok (.invokevirtual 68, 3) := by decide +kernel
theorem dX6_release_5 : decode cX6_release 5 = .ok (.astore_n 2, 1) := by decide +kernel
theorem dX6_release_6 : decode cX6_release 6 = .ok (.aload_n 2, 1) := by decide +kernel
theorem dX6_release_7 : decode cX6_release 7 = .ok (.ifnonnull 5, 3) := by decide +kernel
theorem dX6_release_10 : decode cX6_release 10 = .ok (.iconst (-1), 1) := by decide +kernel
theorem dX6_release_11 : decode cX6_release 11 = .ok (.ireturn, 1) := by decide +kernel
theorem dX6_release_12 : decode cX6_release 12 = .ok (.aload_n 2, 1) := by decide +kernel
theorem dX6_release_13 : decode cX6_release 13 = .ok (.getfield 78, 3) := by decide +kernel
theorem dX6_release_16 : decode cX6_release 16 = .ok (.ifCond .ne 6, 3) := by decide +kernel
theorem dX6_release_19 : decode cX6_release 19 = .ok (.bipush (-2), 2) := by decide +kernel
theorem dX6_release_21 : decode cX6_release 21 = .ok (.ireturn, 1) := by decide +kernel
theorem dX6_release_22 : decode cX6_release 22 = .ok (.aload_n 2, 1) := by decide +kernel
theorem dX6_release_23 : decode cX6_release 23 = .ok (.iconst 0, 1) := by decide +kernel
theorem dX6_release_24 : decode cX6_release 24 = .ok (.putfield 78, 3) := by decide +kernel
theorem dX6_release_27 : decode cX6_release 27 = .ok (.aload_n 2, 1) := by decide +kernel
theorem dX6_release_28 : decode cX6_release 28 = .ok (.iconst 0, 1) := by decide +kernel
theorem dX6_release_29 : decode cX6_release 29 = .ok (.putfield 114, 3) := by decide +kernel
theorem dX6_release_32 : decode cX6_release 32 = .ok (.aload_n 2, 1) := by decide +kernel
theorem dX6_release_33 : decode cX6_release 33 = .ok (.invokevirtual 82, 3) := by decide +kernel
theorem dX6_release_36 : decode cX6_release 36 = .ok (.ireturn, 1) := by decide +kernel
theorem dX6_pointsOf_0 : decode cX6_pointsOf 0 = .ok (.bipush 10, 2) := by decide +kernel
theorem dX6_pointsOf_2 : decode cX6_pointsOf 2 = .ok (.aload_n 1, 1) := by decide +kernel
theorem dX6_pointsOf_3 : decode cX6_pointsOf 3 = .ok (.getfield 114, 3) := by decide +kernel
theorem dX6_pointsOf_6 : decode cX6_pointsOf 6 = .ok (.imul, 1) := by decide +kernel
theorem dX6_pointsOf_7 : decode cX6_pointsOf 7 = .ok (.aload_n 1, 1) := by decide +kernel
theorem dX6_pointsOf_8 : decode cX6_pointsOf 8 = .ok (.invokevirtual 82, 3) := by decide +kernel
theorem dX6_pointsOf_11 : decode cX6_pointsOf 11 = .ok (.iadd, 1) := by decide +kernel
theorem dX6_pointsOf_12 : decode cX6_pointsOf 12 = .ok (.istore_n 2, 1) := by decide +kernel
theorem dX6_pointsOf_13 : decode cX6_pointsOf 13 = .ok (.aload_n 0, 1) := by decide +kernel
theorem dX6_pointsOf_14 : decode cX6_pointsOf 14 = .ok (.aload_n 1, 1) := by decide +kernel
theorem dX6_pointsOf_15 : decode cX6_pointsOf 15 = .ok (.getfield 132, 3) := by decide +kernel
theorem dX6_pointsOf_18 : decode cX6_pointsOf 18 = .ok (.invokevirtual 135, 3) := by decide +kernel
theorem dX6_pointsOf_21 : decode cX6_pointsOf 21 = .ok (.ifCond .eq 10, 3) := by decide +kernel
theorem dX6_pointsOf_24 : decode cX6_pointsOf 24 = .ok (.iload_n 2, 1) := by decide +kernel
theorem dX6_pointsOf_25 : decode cX6_pointsOf 25 = .ok (.bipush 25, 2) := by decide +kernel
theorem dX6_pointsOf_27 : decode cX6_pointsOf 27 = .ok (.iadd, 1) := by decide +kernel
theorem dX6_pointsOf_28 : decode cX6_pointsOf 28 = .ok (.goto 4, 3) := by decide +kernel
theorem dX6_pointsOf_31 : decode cX6_pointsOf 31 = .ok (.iload_n 2, 1) := by decide +kernel
theorem dX6_pointsOf_32 : decode cX6_pointsOf 32 = .ok (.ireturn, 1) := by decide +kernel
theorem dX6_hasAdmittedChild_0 : decode cX6_hasAdmittedChild 0 = .ok (.aload_n 0, 1) := by decide +kernel
theorem dX6_hasAdmittedChild_1 : decode cX6_hasAdmittedChild 1 = .ok (.getfield 11, 3) := by decide +kernel
theorem dX6_hasAdmittedChild_4 : decode cX6_hasAdmittedChild 4 = .ok (.astore_n 2, 1) := by decide +kernel
theorem dX6_hasAdmittedChild_5 : decode cX6_hasAdmittedChild 5 = .ok (.aload_n 2, 1) := by decide +kernel
theorem dX6_hasAdmittedChild_6 : decode cX6_hasAdmittedChild 6 = .ok (.arraylength, 1) := by decide +kernel
theorem dX6_hasAdmittedChild_7 : decode cX6_hasAdmittedChild 7 = .ok (.istore_n 3, 1) := by decide +kernel
theorem dX6_hasAdmittedChild_8 : decode cX6_hasAdmittedChild 8 = .ok (.iconst 0, 1) := by decide +kernel
theorem dX6_hasAdmittedChild_9 : decode cX6_hasAdmittedChild 9 = .ok (.istore 4, 2) := by decide +kernel
theorem dX6_hasAdmittedChild_11 : decode cX6_hasAdmittedChild 11 = .ok (.iload 4, 2) := by decide +kernel
theorem dX6_hasAdmittedChild_13 : decode cX6_hasAdmittedChild 13 = .ok (.iload_n 3, 1) := by decide +kernel
theorem dX6_hasAdmittedChild_14 : decode cX6_hasAdmittedChild 14 = .ok (.if_icmp .ge 39, 3) := by decide +kernel
theorem dX6_hasAdmittedChild_17 : decode cX6_hasAdmittedChild 17 = .ok (.aload_n 2, 1) := by decide +kernel
theorem dX6_hasAdmittedChild_18 : decode cX6_hasAdmittedChild 18 = .ok (.iload 4, 2) := by decide +kernel
theorem dX6_hasAdmittedChild_20 : decode cX6_hasAdmittedChild 20 = .ok (.aaload, 1) := by decide +kernel
theorem dX6_hasAdmittedChild_21 : decode cX6_hasAdmittedChild 21 = .ok (.astore 5, 2) := by decide +kernel
theorem dX6_hasAdmittedChild_23 : decode cX6_hasAdmittedChild 23 = .ok (.aload 5, 2) := by decide +kernel
theorem dX6_hasAdmittedChild_25 : decode cX6_hasAdmittedChild 25 = .ok (.ifnull 22, 3) := by decide +kernel
theorem dX6_hasAdmittedChild_28 : decode cX6_hasAdmittedChild 28 = .ok (.aload 5, 2) := by decide +kernel
theorem dX6_hasAdmittedChild_30 : decode cX6_hasAdmittedChild 30 = .ok (.getfield 78, 3) := by decide +kernel
theorem dX6_hasAdmittedChild_33 : decode cX6_hasAdmittedChild 33 = .ok (.ifCond .eq 14, 3) := by decide +kernel
theorem dX6_hasAdmittedChild_36 : decode cX6_hasAdmittedChild 36 = .ok (.aload 5, 2) := by decide +kernel
theorem dX6_hasAdmittedChild_38 : decode cX6_hasAdmittedChild 38 = .ok (.getfield 132, 3) := by decide +kernel
theorem dX6_hasAdmittedChild_41 : decode cX6_hasAdmittedChild 41 = .ok (.iload_n 1, 1) := by decide +kernel
theorem dX6_hasAdmittedChild_42 : decode cX6_hasAdmittedChild 42 = .ok (.if_icmp .ne 5, 3) := by decide +kernel
theorem dX6_hasAdmittedChild_45 : decode cX6_hasAdmittedChild 45 = .ok (.iconst 1, 1) := by decide +kernel
theorem dX6_hasAdmittedChild_46 : decode cX6_hasAdmittedChild 46 = .ok (.ireturn, 1) := by decide +kernel
theorem dX6_hasAdmittedChild_47 : decode cX6_hasAdmittedChild 47 = .ok (.iinc 4 1, 3) := by decide +kernel
theorem dX6_hasAdmittedChild_50 : decode cX6_hasAdmittedChild 50 = .ok (.goto (-39), 3) := by decide +kernel
theorem dX6_hasAdmittedChild_53 : decode cX6_hasAdmittedChild 53 = .ok (.iconst 0, 1) := by decide +kernel
theorem dX6_hasAdmittedChild_54 : decode cX6_hasAdmittedChild 54 = .ok (.ireturn, 1) := by decide +kernel
theorem dX6_notePriorities_0 : decode cX6_notePriorities 0 = .ok (.iconst 0, 1) := by decide +kernel
theorem dX6_notePriorities_1 : decode cX6_notePriorities 1 = .ok (.istore_n 1, 1) := by decide +kernel
theorem dX6_notePriorities_2 : decode cX6_notePriorities 2 = .ok (.iload_n 1, 1) := by decide +kernel
theorem dX6_notePriorities_3 : decode cX6_notePriorities 3 = .ok (.aload_n 0, 1) := by decide +kernel
theorem dX6_notePriorities_4 : decode cX6_notePriorities 4 = .ok (.getfield 59, 3) := by decide +kernel
theorem dX6_notePriorities_7 : decode cX6_notePriorities 7 = .ok (.arraylength, 1) := by decide +kernel
theorem dX6_notePriorities_8 : decode cX6_notePriorities 8 = .ok (.if_icmp .ge 52, 3) := by decide +kernel
theorem dX6_notePriorities_11 : decode cX6_notePriorities 11 = .ok (.aload_n 0, 1) := by decide +kernel
theorem dX6_notePriorities_12 : decode cX6_notePriorities 12 = .ok (.iload_n 1, 1) := by decide +kernel
theorem dX6_notePriorities_13 : decode cX6_notePriorities 13 = .ok (.invokevirtual 68, 3) := by decide +kernel
theorem dX6_notePriorities_16 : decode cX6_notePriorities 16 = .ok (.astore_n 2, 1) := by decide +kernel
theorem dX6_notePriorities_17 : decode cX6_notePriorities 17 = .ok (.aload_n 2, 1) := by decide +kernel
theorem dX6_notePriorities_18 : decode cX6_notePriorities 18 = .ok (.ifnull 14, 3) := by decide +kernel
theorem dX6_notePriorities_21 : decode cX6_notePriorities 21 = .ok (.aload_n 2, 1) := by decide +kernel
theorem dX6_notePriorities_22 : decode cX6_notePriorities 22 = .ok (.getfield 78, 3) := by decide +kernel
theorem dX6_notePriorities_25 : decode cX6_notePriorities 25 = .ok (.ifCond .ne 7, 3) := by decide +kernel
theorem dX6_notePriorities_28 : decode cX6_notePriorities 28 = .ok (.iconst 1, 1) := by decide +kernel
theorem dX6_notePriorities_29 : decode cX6_notePriorities 29 = .ok (.goto 4, 3) := by decide +kernel
theorem dX6_notePriorities_32 : decode cX6_notePriorities 32 = .ok (.iconst 0, 1) := by decide +kernel
theorem dX6_notePriorities_33 : decode cX6_notePriorities 33 = .ok (.istore_n 3, 1) := by decide +kernel
theorem dX6_notePriorities_34 : decode cX6_notePriorities 34 = .ok (.aload_n 0, 1) := by decide +kernel
theorem dX6_notePriorities_35 : decode cX6_notePriorities 35 = .ok (.getfield 59, 3) := by decide +kernel
theorem dX6_notePriorities_38 : decode cX6_notePriorities 38 = .ok (.iload_n 1, 1) := by decide +kernel
theorem dX6_notePriorities_39 : decode cX6_notePriorities 39 = .ok (.iload_n 3, 1) := by decide +kernel
theorem dX6_notePriorities_40 : decode cX6_notePriorities 40 = .ok (.ifCond .eq 12, 3) := by decide +kernel
theorem dX6_notePriorities_43 : decode cX6_notePriorities 43 = .ok (.aload_n 0, 1) := by decide +kernel
theorem dX6_notePriorities_44 : decode cX6_notePriorities 44 = .ok (.aload_n 2, 1) := by decide +kernel
theorem dX6_notePriorities_45 : decode cX6_notePriorities 45 = .ok (.iload_n 1, 1) := by decide +kernel
theorem dX6_notePriorities_46 : decode cX6_notePriorities 46 = .ok (.invokevirtual 138, 3) := by decide +kernel
theorem dX6_notePriorities_49 : decode cX6_notePriorities 49 = .ok (.goto 4, 3) := by decide +kernel
theorem dX6_notePriorities_52 : decode cX6_notePriorities 52 = .ok (.iconst (-1), 1) := by decide +kernel
theorem dX6_notePriorities_53 : decode cX6_notePriorities 53 = .ok (.iastore, 1) := by decide +kernel
theorem dX6_notePriorities_54 : decode cX6_notePriorities 54 = .ok (.iinc 1 1, 3) := by decide +kernel
theorem dX6_notePriorities_57 : decode cX6_notePriorities 57 = .ok (.goto (-55), 3) := by decide +kernel
theorem dX6_notePriorities_60 : decode cX6_notePriorities 60 = .ok (.return_, 1) := by decide +kernel
theorem dX6_priorityOf_0 : decode cX6_priorityOf 0 = .ok (.aload_n 0, 1) := by decide +kernel
theorem dX6_priorityOf_1 : decode cX6_priorityOf 1 = .ok (.aload_n 1, 1) := by decide +kernel
theorem dX6_priorityOf_2 : decode cX6_priorityOf 2 = .ok (.invokevirtual 117, 3) := by decide +kernel
theorem dX6_priorityOf_5 : decode cX6_priorityOf 5 = .ok (.sipush 128, 3) := by decide +kernel
theorem dX6_priorityOf_8 : decode cX6_priorityOf 8 = .ok (.imul, 1) := by decide +kernel
theorem dX6_priorityOf_9 : decode cX6_priorityOf 9 = .ok (.aload_n 1, 1) := by decide +kernel
theorem dX6_priorityOf_10 : decode cX6_priorityOf 10 = .ok (.getfield 75, 3) := by decide +kernel
theorem dX6_priorityOf_13 : decode cX6_priorityOf 13 = .ok (.iadd, 1) := by decide +kernel
theorem dX6_priorityOf_14 : decode cX6_priorityOf 14 = .ok (.bipush 32, 2) := by decide +kernel
theorem dX6_priorityOf_16 : decode cX6_priorityOf 16 = .ok (.imul, 1) := by decide +kernel
theorem dX6_priorityOf_17 : decode cX6_priorityOf 17 = .ok (.bipush 31, 2) := by decide +kernel
theorem dX6_priorityOf_19 : decode cX6_priorityOf 19 = .ok (.iadd, 1) := by decide +kernel
theorem dX6_priorityOf_20 : decode cX6_priorityOf 20 = .ok (.iload_n 2, 1) := by decide +kernel
theorem dX6_priorityOf_21 : decode cX6_priorityOf 21 = .ok (.isub, 1) := by decide +kernel
theorem dX6_priorityOf_22 : decode cX6_priorityOf 22 = .ok (.ireturn, 1) := by decide +kernel
theorem dX6_countAbove_0 : decode cX6_countAbove 0 = .ok (.iconst 0, 1) := by decide +kernel
theorem dX6_countAbove_1 : decode cX6_countAbove 1 = .ok (.istore_n 2, 1) := by decide +kernel
theorem dX6_countAbove_2 : decode cX6_countAbove 2 = .ok (.aload_n 0, 1) := by decide +kernel
theorem dX6_countAbove_3 : decode cX6_countAbove 3 = .ok (.getfield 59, 3) := by decide +kernel
theorem dX6_countAbove_6 : decode cX6_countAbove 6 = .ok (.astore_n 3, 1) := by decide +kernel
theorem dX6_countAbove_7 : decode cX6_countAbove 7 = .ok (.aload_n 3, 1) := by decide +kernel
theorem dX6_countAbove_8 : decode cX6_countAbove 8 = .ok (.arraylength, 1) := by decide +kernel
theorem dX6_countAbove_9 : decode cX6_countAbove 9 = .ok (.istore 4, 2) := by decide +kernel
theorem dX6_countAbove_11 : decode cX6_countAbove 11 = .ok (.iconst 0, 1) := by decide +kernel
theorem dX6_countAbove_12 : decode cX6_countAbove 12 = .ok (.istore 5, 2) := by decide +kernel
theorem dX6_countAbove_14 : decode cX6_countAbove 14 = .ok (.iload 5, 2) := by decide +kernel
theorem dX6_countAbove_16 : decode cX6_countAbove 16 = .ok (.iload 4, 2) := by decide +kernel
theorem dX6_countAbove_18 : decode cX6_countAbove 18 = .ok (.if_icmp .ge 24, 3) := by decide +kernel
theorem dX6_countAbove_21 : decode cX6_countAbove 21 = .ok (.aload_n 3, 1) := by decide +kernel
theorem dX6_countAbove_22 : decode cX6_countAbove 22 = .ok (.iload 5, 2) := by decide +kernel
theorem dX6_countAbove_24 : decode cX6_countAbove 24 = .ok (.iaload, 1) := by decide +kernel
theorem dX6_countAbove_25 : decode cX6_countAbove 25 = .ok (.istore 6, 2) := by decide +kernel
theorem dX6_countAbove_27 : decode cX6_countAbove 27 = .ok (.iload 6, 2) := by decide +kernel
theorem dX6_countAbove_29 : decode cX6_countAbove 29 = .ok (.iload_n 1, 1) := by decide +kernel
theorem dX6_countAbove_30 : decode cX6_countAbove 30 = .ok (.if_icmp .le 6, 3) := by decide +kernel
theorem dX6_countAbove_33 : decode cX6_countAbove 33 = .ok (.iinc 2 1, 3) := by decide +kernel
theorem dX6_countAbove_36 : decode cX6_countAbove 36 = .ok (.iinc 5 1, 3) := by decide +kernel
theorem dX6_countAbove_39 : decode cX6_countAbove 39 = .ok (.goto (-25), 3) := by decide +kernel
theorem dX6_countAbove_42 : decode cX6_countAbove 42 = .ok (.iload_n 2, 1) := by decide +kernel
theorem dX6_countAbove_43 : decode cX6_countAbove 43 = .ok (.ireturn, 1) := by decide +kernel
theorem dX6_firstThatCanBeAdmitted_0 : decode cX6_firstThatCanBeAdmitted 0 = .ok (.aload_n 0, 1) := by decide +kernel
theorem dX6_firstThatCanBeAdmitted_1 : decode cX6_firstThatCanBeAdmitted 1 = .ok (.invokevirtual 121, 3) := by decide +kernel
theorem dX6_firstThatCanBeAdmitted_4 : decode cX6_firstThatCanBeAdmitted 4 = .ok (.aconst_null, 1) := by decide +kernel
theorem dX6_firstThatCanBeAdmitted_5 : decode cX6_firstThatCanBeAdmitted 5 = .ok (.astore_n 1, 1) := by decide +kernel
theorem dX6_firstThatCanBeAdmitted_6 : decode cX6_firstThatCanBeAdmitted 6 = .ok (.iconst (-1), 1) := by decide +kernel
theorem dX6_firstThatCanBeAdmitted_7 : decode cX6_firstThatCanBeAdmitted 7 = .ok (.istore_n 2, 1) := by decide +kernel
theorem dX6_firstThatCanBeAdmitted_8 : decode cX6_firstThatCanBeAdmitted 8 = .ok (.iconst 0, 1) := by decide +kernel
theorem dX6_firstThatCanBeAdmitted_9 : decode cX6_firstThatCanBeAdmitted 9 = .ok (.istore_n 3, 1) := by decide +kernel
theorem dX6_firstThatCanBeAdmitted_10 : decode cX6_firstThatCanBeAdmitted 10 = .ok (.iload_n 3, 1) := by decide +kernel
theorem dX6_firstThatCanBeAdmitted_11 : decode cX6_firstThatCanBeAdmitted 11 = .ok (.aload_n 0, 1) := by decide +kernel
theorem dX6_firstThatCanBeAdmitted_12 : decode cX6_firstThatCanBeAdmitted 12 = .ok (.getfield 59, 3) := by decide +kernel
theorem dX6_firstThatCanBeAdmitted_15 : decode cX6_firstThatCanBeAdmitted 15 = .ok (.arraylength, 1) := by decide +kernel
theorem dX6_firstThatCanBeAdmitted_16 : decode cX6_firstThatCanBeAdmitted 16 = .ok (.if_icmp .ge 50, 3) := by decide +kernel
theorem dX6_firstThatCanBeAdmitted_19 : decode cX6_firstThatCanBeAdmitted 19 = .ok (.aload_n 0, 1) := by decide +kernel
theorem dX6_firstThatCanBeAdmitted_20 : decode cX6_firstThatCanBeAdmitted 20 = .ok (.iload_n 3, 1) := by decide +kernel
theorem dX6_firstThatCanBeAdmitted_21 : decode cX6_firstThatCanBeAdmitted 21 = .ok (.invokevirtual 68, 3) := by decide +kernel
theorem dX6_firstThatCanBeAdmitted_24 : decode cX6_firstThatCanBeAdmitted 24 = .ok (.astore 4, 2) := by decide +kernel
theorem dX6_firstThatCanBeAdmitted_26 : decode cX6_firstThatCanBeAdmitted 26 = .ok (.aload 4, 2) := by decide +kernel
theorem dX6_firstThatCanBeAdmitted_28 : decode cX6_firstThatCanBeAdmitted 28 = .ok (.ifnull 32, 3) := by decide +kernel
theorem dX6_firstThatCanBeAdmitted_31 : decode cX6_firstThatCanBeAdmitted 31 = .ok (.aload_n 0, 1) := by decide +kernel
theorem dX6_firstThatCanBeAdmitted_32 : decode cX6_firstThatCanBeAdmitted 32 = .ok (.getfield 59, 3) := by decide +kernel
theorem dX6_firstThatCanBeAdmitted_35 : decode cX6_firstThatCanBeAdmitted 35 = .ok (.iload_n 3, 1) := by decide +kernel
theorem dX6_firstThatCanBeAdmitted_36 : decode cX6_firstThatCanBeAdmitted 36 = .ok (.iaload, 1) := by decide +kernel
theorem dX6_firstThatCanBeAdmitted_37 : decode cX6_firstThatCanBeAdmitted 37 = .ok (.iload_n 2, 1) := by decide +kernel
theorem dX6_firstThatCanBeAdmitted_38 : decode cX6_firstThatCanBeAdmitted 38 = .ok (.if_icmp .le 22, 3) := by decide +kernel
theorem dX6_firstThatCanBeAdmitted_41 : decode cX6_firstThatCanBeAdmitted 41 = .ok (.aload_n 0, 1) := by decide +kernel
theorem dX6_firstThatCanBeAdmitted_42 : decode cX6_firstThatCanBeAdmitted 42 = .ok (.aload 4, 2) := by decide +kernel
theorem dX6_firstThatCanBeAdmitted_44 : decode cX6_firstThatCanBeAdmitted 44 = .ok (.invokevirtual 142, 3) := by decide +kernel
theorem dX6_firstThatCanBeAdmitted_47 : decode cX6_firstThatCanBeAdmitted 47 = .ok (.ifCond .eq 13, 3) := by decide +kernel
theorem dX6_firstThatCanBeAdmitted_50 : decode cX6_firstThatCanBeAdmitted 50 = .ok (.aload 4, 2) := by decide +kernel
theorem dX6_firstThatCanBeAdmitted_52 : decode cX6_firstThatCanBeAdmitted 52 = .ok (.astore_n 1, 1) := by decide +kernel
theorem dX6_firstThatCanBeAdmitted_53 : decode cX6_firstThatCanBeAdmitted 53 = .ok (.aload_n 0, 1) := by decide +kernel
theorem dX6_firstThatCanBeAdmitted_54 : decode cX6_firstThatCanBeAdmitted 54 = .ok (.getfield 59, 3) := by decide +kernel
theorem dX6_firstThatCanBeAdmitted_57 : decode cX6_firstThatCanBeAdmitted 57 = .ok (.iload_n 3, 1) := by decide +kernel
theorem dX6_firstThatCanBeAdmitted_58 : decode cX6_firstThatCanBeAdmitted 58 = .ok (.iaload, 1) := by decide +kernel
theorem dX6_firstThatCanBeAdmitted_59 : decode cX6_firstThatCanBeAdmitted 59 = .ok (.istore_n 2, 1) := by decide +kernel
theorem dX6_firstThatCanBeAdmitted_60 : decode cX6_firstThatCanBeAdmitted 60 = .ok (.iinc 3 1, 3) := by decide +kernel
theorem dX6_firstThatCanBeAdmitted_63 : decode cX6_firstThatCanBeAdmitted 63 = .ok (.goto (-53), 3) := by decide +kernel
theorem dX6_firstThatCanBeAdmitted_66 : decode cX6_firstThatCanBeAdmitted 66 = .ok (.aload_n 1, 1) := by decide +kernel
theorem dX6_firstThatCanBeAdmitted_67 : decode cX6_firstThatCanBeAdmitted 67 = .ok (.areturn, 1) := by decide +kernel
theorem dX6_canBeAdmitted_0 : decode cX6_canBeAdmitted 0 = .ok (.aload_n 1, 1) := by decide +kernel
theorem dX6_canBeAdmitted_1 : decode cX6_canBeAdmitted 1 = .ok (.getfield 93, 3) := by decide +kernel
theorem dX6_canBeAdmitted_4 : decode cX6_canBeAdmitted 4 = .ok (.lconst 0, 1) := by decide +kernel
theorem dX6_canBeAdmitted_5 : decode cX6_canBeAdmitted 5 = .ok (.lcmp, 1) := by decide +kernel
theorem dX6_canBeAdmitted_6 : decode cX6_canBeAdmitted 6 = .ok (.ifCond .eq 19, 3) := by decide +kernel
theorem dX6_canBeAdmitted_9 : decode cX6_canBeAdmitted 9 = .ok (.aload_n 0, 1) := by decide +kernel
theorem dX6_canBeAdmitted_10 : decode cX6_canBeAdmitted 10 = .ok (.aload_n 1, 1) := by decide +kernel
theorem dX6_canBeAdmitted_11 : decode cX6_canBeAdmitted 11 = .ok (.getfield 93, 3) := by decide +kernel
theorem dX6_canBeAdmitted_14 : decode cX6_canBeAdmitted 14 = .ok (.aload_n 1, 1) := by decide +kernel
theorem dX6_canBeAdmitted_15 : decode cX6_canBeAdmitted 15 = .ok (.invokevirtual 110, 3) := by decide +kernel
theorem dX6_canBeAdmitted_18 : decode cX6_canBeAdmitted 18 = .ok (.ifCond .eq 7, 3) := by decide +kernel
theorem dX6_canBeAdmitted_21 : decode cX6_canBeAdmitted 21 = .ok (.iconst 1, 1) := by decide +kernel
theorem dX6_canBeAdmitted_22 : decode cX6_canBeAdmitted 22 = .ok (.goto 4, 3) := by decide +kernel
theorem dX6_canBeAdmitted_25 : decode cX6_canBeAdmitted 25 = .ok (.iconst 0, 1) := by decide +kernel
theorem dX6_canBeAdmitted_26 : decode cX6_canBeAdmitted 26 = .ok (.ireturn, 1) := by decide +kernel
theorem dX6_addEducator_0 : decode cX6_addEducator 0 = .ok (.iconst 0, 1) := by decide +kernel
theorem dX6_addEducator_1 : decode cX6_addEducator 1 = .ok (.istore_n 1, 1) := by decide +kernel
theorem dX6_addEducator_2 : decode cX6_addEducator 2 = .ok (.iload_n 1, 1) := by decide +kernel
theorem dX6_addEducator_3 : decode cX6_addEducator 3 = .ok (.aload_n 0, 1) := by decide +kernel
theorem dX6_addEducator_4 : decode cX6_addEducator 4 = .ok (.getfield 17, 3) := by decide +kernel
theorem dX6_addEducator_7 : decode cX6_addEducator 7 = .ok (.arraylength, 1) := by decide +kernel
theorem dX6_addEducator_8 : decode cX6_addEducator 8 = .ok (.if_icmp .ge 33, 3) := by decide +kernel
theorem dX6_addEducator_11 : decode cX6_addEducator 11 = .ok (.aload_n 0, 1) := by decide +kernel
theorem dX6_addEducator_12 : decode cX6_addEducator 12 = .ok (.getfield 17, 3) := by decide +kernel
theorem dX6_addEducator_15 : decode cX6_addEducator 15 = .ok (.iload_n 1, 1) := by decide +kernel
theorem dX6_addEducator_16 : decode cX6_addEducator 16 = .ok (.aaload, 1) := by decide +kernel
theorem dX6_addEducator_17 : decode cX6_addEducator 17 = .ok (.ifnonnull 18, 3) := by decide +kernel
theorem dX6_addEducator_20 : decode cX6_addEducator 20 = .ok (.aload_n 0, 1) := by decide +kernel
theorem dX6_addEducator_21 : decode cX6_addEducator 21 = .ok (.getfield 17, 3) := by decide +kernel
theorem dX6_addEducator_24 : decode cX6_addEducator 24 = .ok (.iload_n 1, 1) := by decide +kernel
theorem dX6_addEducator_25 : decode cX6_addEducator 25 = .ok (.new 15, 3) := by decide +kernel
theorem dX6_addEducator_28 : decode cX6_addEducator 28 = .ok (.dup, 1) := by decide +kernel
theorem dX6_addEducator_29 : decode cX6_addEducator 29 = .ok (.invokespecial 146, 3) := by decide +kernel
theorem dX6_addEducator_32 : decode cX6_addEducator 32 = .ok (.aastore, 1) := by decide +kernel
theorem dX6_addEducator_33 : decode cX6_addEducator 33 = .ok (.iload_n 1, 1) := by decide +kernel
theorem dX6_addEducator_34 : decode cX6_addEducator 34 = .ok (.ireturn, 1) := by decide +kernel
theorem dX6_addEducator_35 : decode cX6_addEducator 35 = .ok (.iinc 1 1, 3) := by decide +kernel
theorem dX6_addEducator_38 : decode cX6_addEducator 38 = .ok (.goto (-36), 3) := by decide +kernel
theorem dX6_addEducator_41 : decode cX6_addEducator 41 = .ok (.bipush (-3), 2) := by decide +kernel
theorem dX6_addEducator_43 : decode cX6_addEducator 43 = .ok (.ireturn, 1) := by decide +kernel
theorem dX6_removeEducator_0 : decode cX6_removeEducator 0 = .ok (.aload_n 0, 1) := by decide +kernel
theorem dX6_removeEducator_1 : decode cX6_removeEducator 1 = .ok (.iload_n 1, 1) := by decide +kernel
theorem dX6_removeEducator_2 : decode cX6_removeEducator 2 = .ok (.invokevirtual 147, 3) := by decide +kernel
theorem dX6_removeEducator_5 : decode cX6_removeEducator 5 = .ok (.ifnonnull 5, 3) := by decide +kernel
theorem dX6_removeEducator_8 : decode cX6_removeEducator 8 = .ok (.iconst (-1), 1) := by decide +kernel
theorem dX6_removeEducator_9 : decode cX6_removeEducator 9 = .ok (.ireturn, 1) := by decide +kernel
theorem dX6_removeEducator_10 : decode cX6_removeEducator 10 = .ok (.aload_n 0, 1) := by decide +kernel
theorem dX6_removeEducator_11 : decode cX6_removeEducator 11 = .ok (.getfield 17, 3) := by decide +kernel
theorem dX6_removeEducator_14 : decode cX6_removeEducator 14 = .ok (.iload_n 1, 1) := by decide +kernel
theorem dX6_removeEducator_15 : decode cX6_removeEducator 15 = .ok (.aconst_null, 1) := by decide +kernel
theorem dX6_removeEducator_16 : decode cX6_removeEducator 16 = .ok (.aastore, 1) := by decide +kernel
theorem dX6_removeEducator_17 : decode cX6_removeEducator 17 = .ok (.aload_n 0, 1) := by decide +kernel
theorem dX6_removeEducator_18 : decode cX6_removeEducator 18 = .ok (.invokevirtual 151, 3) := by decide +kernel
theorem dX6_removeEducator_21 : decode cX6_removeEducator 21 = .ok (.ireturn, 1) := by decide +kernel
theorem dX6_educators_0 : decode cX6_educators 0 = .ok (.iconst 0, 1) := by decide +kernel
theorem dX6_educators_1 : decode cX6_educators 1 = .ok (.istore_n 1, 1) := by decide +kernel
theorem dX6_educators_2 : decode cX6_educators 2 = .ok (.aload_n 0, 1) := by decide +kernel
theorem dX6_educators_3 : decode cX6_educators 3 = .ok (.getfield 17, 3) := by decide +kernel
theorem dX6_educators_6 : decode cX6_educators 6 = .ok (.astore_n 2, 1) := by decide +kernel
theorem dX6_educators_7 : decode cX6_educators 7 = .ok (.aload_n 2, 1) := by decide +kernel
theorem dX6_educators_8 : decode cX6_educators 8 = .ok (.arraylength, 1) := by decide +kernel
theorem dX6_educators_9 : decode cX6_educators 9 = .ok (.istore_n 3, 1) := by decide +kernel
theorem dX6_educators_10 : decode cX6_educators 10 = .ok (.iconst 0, 1) := by decide +kernel
theorem dX6_educators_11 : decode cX6_educators 11 = .ok (.istore 4, 2) := by decide +kernel
theorem dX6_educators_13 : decode cX6_educators 13 = .ok (.iload 4, 2) := by decide +kernel
theorem dX6_educators_15 : decode cX6_educators 15 = .ok (.iload_n 3, 1) := by decide +kernel
theorem dX6_educators_16 : decode cX6_educators 16 = .ok (.if_icmp .ge 23, 3) := by decide +kernel
theorem dX6_educators_19 : decode cX6_educators 19 = .ok (.aload_n 2, 1) := by decide +kernel
theorem dX6_educators_20 : decode cX6_educators 20 = .ok (.iload 4, 2) := by decide +kernel
theorem dX6_educators_22 : decode cX6_educators 22 = .ok (.aaload, 1) := by decide +kernel
theorem dX6_educators_23 : decode cX6_educators 23 = .ok (.astore 5, 2) := by decide +kernel
theorem dX6_educators_25 : decode cX6_educators 25 = .ok (.aload 5, 2) := by decide +kernel
theorem dX6_educators_27 : decode cX6_educators 27 = .ok (.ifnull 6, 3) := by decide +kernel
theorem dX6_educators_30 : decode cX6_educators 30 = .ok (.iinc 1 1, 3) := by decide +kernel
theorem dX6_educators_33 : decode cX6_educators 33 = .ok (.iinc 4 1, 3) := by decide +kernel
theorem dX6_educators_36 : decode cX6_educators 36 = .ok (.goto (-23), 3) := by decide +kernel
theorem dX6_educators_39 : decode cX6_educators 39 = .ok (.iload_n 1, 1) := by decide +kernel
theorem dX6_educators_40 : decode cX6_educators 40 = .ok (.ireturn, 1) := by decide +kernel
theorem dX6_work_0 : decode cX6_work 0 = .ok (.aload_n 0, 1) := by decide +kernel
theorem dX6_work_1 : decode cX6_work 1 = .ok (.iload_n 1, 1) := by decide +kernel
theorem dX6_work_2 : decode cX6_work 2 = .ok (.invokevirtual 147, 3) := by decide +kernel
theorem dX6_work_5 : decode cX6_work 5 = .ok (.astore 5, 2) := by decide +kernel
theorem dX6_work_7 : decode cX6_work 7 = .ok (.aload 5, 2) := by decide +kernel
theorem dX6_work_9 : decode cX6_work 9 = .ok (.ifnull 19, 3) := by decide +kernel
theorem dX6_work_12 : decode cX6_work 12 = .ok (.iload_n 2, 1) := by decide +kernel
theorem dX6_work_13 : decode cX6_work 13 = .ok (.invokestatic 85, 3) := by decide +kernel
theorem dX6_work_16 : decode cX6_work 16 = .ok (.ifCond .eq 12, 3) := by decide +kernel
theorem dX6_work_19 : decode cX6_work 19 = .ok (.iload_n 3, 1) := by decide +kernel
theorem dX6_work_20 : decode cX6_work 20 = .ok (.iload 4, 2) := by decide +kernel
theorem dX6_work_22 : decode cX6_work 22 = .ok (.invokestatic 89, 3) := by decide +kernel
theorem dX6_work_25 : decode cX6_work 25 = .ok (.ifCond .ne 5, 3) := by decide +kernel
theorem dX6_work_28 : decode cX6_work 28 = .ok (.iconst (-1), 1) := by decide +kernel
theorem dX6_work_29 : decode cX6_work 29 = .ok (.ireturn, 1) := by decide +kernel
theorem dX6_work_30 : decode cX6_work 30 = .ok (.aload 5, 2) := by decide +kernel
theorem dX6_work_32 : decode cX6_work 32 = .ok (.aload 5, 2) := by decide +kernel
theorem dX6_work_34 : decode cX6_work 34 = .ok (.getfield 153, 3) := by decide +kernel
theorem dX6_work_37 : decode cX6_work 37 = .ok (.iload_n 2, 1) := by decide +kernel
theorem dX6_work_38 : decode cX6_work 38 = .ok (.iload_n 3, 1) := by decide +kernel
theorem dX6_work_39 : decode cX6_work 39 = .ok (.iload 4, 2) := by decide +kernel
theorem dX6_work_41 : decode cX6_work 41 = .ok (.invokestatic 97, 3) := by decide +kernel
theorem dX6_work_44 : decode cX6_work 44 = .ok (.putfield 153, 3) := by decide +kernel
theorem dX6_work_47 : decode cX6_work 47 = .ok (.aload 5, 2) := by decide +kernel
theorem dX6_work_49 : decode cX6_work 49 = .ok (.getfield 153, 3) := by decide +kernel
theorem dX6_work_52 : decode cX6_work 52 = .ok (.invokestatic 156, 3) := by decide +kernel
theorem dX6_work_55 : decode cX6_work 55 = .ok (.ireturn, 1) := by decide +kernel
theorem dX6_setHoliday_0 : decode cX6_setHoliday 0 = .ok (.aload_n 0, 1) := by decide +kernel
theorem dX6_setHoliday_1 : decode cX6_setHoliday 1 = .ok (.iload_n 1, 1) := by decide +kernel
theorem dX6_setHoliday_2 : decode cX6_setHoliday 2 = .ok (.invokevirtual 147, 3) := by decide +kernel
theorem dX6_setHoliday_5 : decode cX6_setHoliday 5 = .ok (.astore 4, 2) := by decide +kernel
theorem dX6_setHoliday_7 : decode cX6_setHoliday 7 = .ok (.aload 4, 2) := by decide +kernel
theorem dX6_setHoliday_9 : decode cX6_setHoliday 9 = .ok (.ifnull 10, 3) := by decide +kernel
theorem dX6_setHoliday_12 : decode cX6_setHoliday 12 = .ok (.iload_n 2, 1) := by decide +kernel
theorem dX6_setHoliday_13 : decode cX6_setHoliday 13 = .ok (.invokestatic 162, 3) := by decide +kernel
theorem dX6_setHoliday_16 : decode cX6_setHoliday 16 = .ok (.ifCond .ne 5, 3) := by decide +kernel
theorem dX6_setHoliday_19 : decode cX6_setHoliday 19 = .ok (.iconst (-1), 1) := by decide +kernel
theorem dX6_setHoliday_20 : decode cX6_setHoliday 20 = .ok (.ireturn, 1) := by decide +kernel
theorem dX6_setHoliday_21 : decode cX6_setHoliday 21 = .ok (.lconst 1, 1) := by decide +kernel
theorem dX6_setHoliday_22 : decode cX6_setHoliday 22 = .ok (.iload_n 2, 1) := by decide +kernel
theorem dX6_setHoliday_23 : decode cX6_setHoliday 23 = .ok (.lshl, 1) := by decide +kernel
theorem dX6_setHoliday_24 : decode cX6_setHoliday 24 = .ok (.lstore 5, 2) := by decide +kernel
theorem dX6_setHoliday_26 : decode cX6_setHoliday 26 = .ok (.aload 4, 2) := by decide +kernel
theorem dX6_setHoliday_28 : decode cX6_setHoliday 28 = .ok (.iload_n 3, 1) := by decide +kernel
theorem dX6_setHoliday_29 : decode cX6_setHoliday 29 = .ok (.ifCond .eq 14, 3) := by decide +kernel
theorem dX6_setHoliday_32 : decode cX6_setHoliday 32 = .ok (.aload 4, 2) := by decide +kernel
theorem dX6_setHoliday_34 : decode cX6_setHoliday 34 = .ok (.getfield 165, 3) := by decide +kernel
theorem dX6_setHoliday_37 : decode cX6_setHoliday 37 = .ok (.lload 5, 2) := by decide +kernel
theorem dX6_setHoliday_39 : decode cX6_setHoliday 39 = .ok (.lor, 1) := by decide +kernel
theorem dX6_setHoliday_40 : decode cX6_setHoliday 40 = .ok (.goto 15, 3) := by decide +kernel
theorem dX6_setHoliday_43 : decode cX6_setHoliday 43 = .ok (.aload 4, 2) := by decide +kernel
theorem dX6_setHoliday_45 : decode cX6_setHoliday 45 = .ok (.getfield 165, 3) := by decide +kernel
theorem dX6_setHoliday_48 : decode cX6_setHoliday 48 = .ok (.lload 5, 2) := by decide +kernel
theorem dX6_setHoliday_50 : decode cX6_setHoliday 50 = .ok (.ldc2_w 108, 3) := by decide +kernel
theorem dX6_setHoliday_53 : decode cX6_setHoliday 53 = .ok (.lxor, 1) := by decide +kernel
theorem dX6_setHoliday_54 : decode cX6_setHoliday 54 = .ok (.land, 1) := by decide +kernel
theorem dX6_setHoliday_55 : decode cX6_setHoliday 55 = .ok (.putfield 165, 3) := by decide +kernel
theorem dX6_setHoliday_58 : decode cX6_setHoliday 58 = .ok (.aload 4, 2) := by decide +kernel
theorem dX6_setHoliday_60 : decode cX6_setHoliday 60 = .ok (.getfield 165, 3) := by decide +kernel
theorem dX6_setHoliday_63 : decode cX6_setHoliday 63 = .ok (.invokestatic 156, 3) := by decide +kernel
theorem dX6_setHoliday_66 : decode cX6_setHoliday 66 = .ok (.ireturn, 1) := by decide +kernel
theorem dX6_setRatio_0 : decode cX6_setRatio 0 = .ok (.iload_n 1, 1) := by decide +kernel
theorem dX6_setRatio_1 : decode cX6_setRatio 1 = .ok (.invokestatic 168, 3) := by decide +kernel
theorem dX6_setRatio_4 : decode cX6_setRatio 4 = .ok (.ifCond .eq 14, 3) := by decide +kernel
theorem dX6_setRatio_7 : decode cX6_setRatio 7 = .ok (.iload_n 2, 1) := by decide +kernel
theorem dX6_setRatio_8 : decode cX6_setRatio 8 = .ok (.iconst 1, 1) := by decide +kernel
theorem dX6_setRatio_9 : decode cX6_setRatio 9 = .ok (.if_icmp .lt 9, 3) := by decide +kernel
theorem dX6_setRatio_12 : decode cX6_setRatio 12 = .ok (.iload_n 2, 1) := by decide +kernel
theorem dX6_setRatio_13 : decode cX6_setRatio 13 = .ok (.bipush 20, 2) := by decide +kernel
theorem dX6_setRatio_15 : decode cX6_setRatio 15 = .ok (.if_icmp .le 5, 3) := by decide +kernel
theorem dX6_setRatio_18 : decode cX6_setRatio 18 = .ok (.iconst (-1), 1) := by decide +kernel
theorem dX6_setRatio_19 : decode cX6_setRatio 19 = .ok (.ireturn, 1) := by decide +kernel
theorem dX6_setRatio_20 : decode cX6_setRatio 20 = .ok (.aload_n 0, 1) := by decide +kernel
theorem dX6_setRatio_21 : decode cX6_setRatio 21 = .ok (.getfield 21, 3) := by decide +kernel
theorem dX6_setRatio_24 : decode cX6_setRatio 24 = .ok (.iload_n 1, 1) := by decide +kernel
theorem dX6_setRatio_25 : decode cX6_setRatio 25 = .ok (.iaload, 1) := by decide +kernel
theorem dX6_setRatio_26 : decode cX6_setRatio 26 = .ok (.istore_n 3, 1) := by decide +kernel
theorem dX6_setRatio_27 : decode cX6_setRatio 27 = .ok (.aload_n 0, 1) := by decide +kernel
theorem dX6_setRatio_28 : decode cX6_setRatio 28 = .ok (.getfield 21, 3) := by decide +kernel
theorem dX6_setRatio_31 : decode cX6_setRatio 31 = .ok (.iload_n 1, 1) := by decide +kernel
theorem dX6_setRatio_32 : decode cX6_setRatio 32 = .ok (.iload_n 2, 1) := by decide +kernel
theorem dX6_setRatio_33 : decode cX6_setRatio 33 = .ok (.iastore, 1) := by decide +kernel
theorem dX6_setRatio_34 : decode cX6_setRatio 34 = .ok (.iload_n 3, 1) := by decide +kernel
theorem dX6_setRatio_35 : decode cX6_setRatio 35 = .ok (.ireturn, 1) := by decide +kernel
theorem dX6_setRoomLimit_0 : decode cX6_setRoomLimit 0 = .ok (.iload_n 1, 1) := by decide +kernel
theorem dX6_setRoomLimit_1 : decode cX6_setRoomLimit 1 = .ok (.iconst 1, 1) := by decide +kernel
theorem dX6_setRoomLimit_2 : decode cX6_setRoomLimit 2 = .ok (.if_icmp .lt 9, 3) := by decide +kernel
theorem dX6_setRoomLimit_5 : decode cX6_setRoomLimit 5 = .ok (.iload_n 1, 1) := by decide +kernel
theorem dX6_setRoomLimit_6 : decode cX6_setRoomLimit 6 = .ok (.bipush 24, 2) := by decide +kernel
theorem dX6_setRoomLimit_8 : decode cX6_setRoomLimit 8 = .ok (.if_icmp .le 5, 3) := by decide +kernel
theorem dX6_setRoomLimit_11 : decode cX6_setRoomLimit 11 = .ok (.iconst (-1), 1) := by decide +kernel
theorem dX6_setRoomLimit_12 : decode cX6_setRoomLimit 12 = .ok (.ireturn, 1) := by decide +kernel
theorem dX6_setRoomLimit_13 : decode cX6_setRoomLimit 13 = .ok (.aload_n 0, 1) := by decide +kernel
theorem dX6_setRoomLimit_14 : decode cX6_setRoomLimit 14 = .ok (.getfield 28, 3) := by decide +kernel
theorem dX6_setRoomLimit_17 : decode cX6_setRoomLimit 17 = .ok (.istore_n 2, 1) := by decide +kernel
theorem dX6_setRoomLimit_18 : decode cX6_setRoomLimit 18 = .ok (.aload_n 0, 1) := by decide +kernel
theorem dX6_setRoomLimit_19 : decode cX6_setRoomLimit 19 = .ok (.iload_n 1, 1) := by decide +kernel
theorem dX6_setRoomLimit_20 : decode cX6_setRoomLimit 20 = .ok (.putfield 28, 3) := by decide +kernel
theorem dX6_setRoomLimit_23 : decode cX6_setRoomLimit 23 = .ok (.iload_n 2, 1) := by decide +kernel
theorem dX6_setRoomLimit_24 : decode cX6_setRoomLimit 24 = .ok (.ireturn, 1) := by decide +kernel
theorem dX6_educatorAt_0 : decode cX6_educatorAt 0 = .ok (.iload_n 1, 1) := by decide +kernel
theorem dX6_educatorAt_1 : decode cX6_educatorAt 1 = .ok (.ifCond .lt 12, 3) := by decide +kernel
theorem dX6_educatorAt_4 : decode cX6_educatorAt 4 = .ok (.iload_n 1, 1) := by decide +kernel
theorem dX6_educatorAt_5 : decode cX6_educatorAt 5 = .ok (.aload_n 0, 1) := by decide +kernel
theorem dX6_educatorAt_6 : decode cX6_educatorAt 6 = .ok (.getfield 17, 3) := by decide +kernel
theorem dX6_educatorAt_9 : decode cX6_educatorAt 9 = .ok (.arraylength, 1) := by decide +kernel
theorem dX6_educatorAt_10 : decode cX6_educatorAt 10 = .ok (.if_icmp .lt 5, 3) := by decide +kernel
theorem dX6_educatorAt_13 : decode cX6_educatorAt 13 = .ok (.aconst_null, 1) := by decide +kernel
theorem dX6_educatorAt_14 : decode cX6_educatorAt 14 = .ok (.areturn, 1) := by decide +kernel
theorem dX6_educatorAt_15 : decode cX6_educatorAt 15 = .ok (.aload_n 0, 1) := by decide +kernel
theorem dX6_educatorAt_16 : decode cX6_educatorAt 16 = .ok (.getfield 17, 3) := by decide +kernel
theorem dX6_educatorAt_19 : decode cX6_educatorAt 19 = .ok (.iload_n 1, 1) := by decide +kernel
theorem dX6_educatorAt_20 : decode cX6_educatorAt 20 = .ok (.aaload, 1) := by decide +kernel
theorem dX6_educatorAt_21 : decode cX6_educatorAt 21 = .ok (.areturn, 1) := by decide +kernel
theorem dX6_present_0 : decode cX6_present 0 = .ok (.iload_n 1, 1) := by decide +kernel
theorem dX6_present_1 : decode cX6_present 1 = .ok (.invokestatic 85, 3) := by decide +kernel
theorem dX6_present_4 : decode cX6_present 4 = .ok (.ifCond .eq 10, 3) := by decide +kernel
theorem dX6_present_7 : decode cX6_present 7 = .ok (.iload_n 2, 1) := by decide +kernel
theorem dX6_present_8 : decode cX6_present 8 = .ok (.invokestatic 171, 3) := by decide +kernel
theorem dX6_present_11 : decode cX6_present 11 = .ok (.ifCond .ne 5, 3) := by decide +kernel
theorem dX6_present_14 : decode cX6_present 14 = .ok (.iconst (-1), 1) := by decide +kernel
theorem dX6_present_15 : decode cX6_present 15 = .ok (.ireturn, 1) := by decide +kernel
theorem dX6_present_16 : decode cX6_present 16 = .ok (.aload_n 0, 1) := by decide +kernel
theorem dX6_present_17 : decode cX6_present 17 = .ok (.iload_n 1, 1) := by decide +kernel
theorem dX6_present_18 : decode cX6_present 18 = .ok (.iload_n 2, 1) := by decide +kernel
theorem dX6_present_19 : decode cX6_present 19 = .ok (.invokestatic 174, 3) := by decide +kernel
theorem dX6_present_22 : decode cX6_present 22 = .ok (.invokevirtual 178, 3) := by decide +kernel
theorem dX6_present_25 : decode cX6_present 25 = .ok (.aload_n 0, 1) := by decide +kernel
theorem dX6_present_26 : decode cX6_present 26 = .ok (.getfield 55, 3) := by decide +kernel
theorem dX6_present_29 : decode cX6_present 29 = .ok (.invokevirtual 182, 3) := by decide +kernel
theorem dX6_present_32 : decode cX6_present 32 = .ok (.ireturn, 1) := by decide +kernel
theorem dX6_need_0 : decode cX6_need 0 = .ok (.iload_n 1, 1) := by decide +kernel
theorem dX6_need_1 : decode cX6_need 1 = .ok (.invokestatic 85, 3) := by decide +kernel
theorem dX6_need_4 : decode cX6_need 4 = .ok (.ifCond .eq 10, 3) := by decide +kernel
theorem dX6_need_7 : decode cX6_need 7 = .ok (.iload_n 2, 1) := by decide +kernel
theorem dX6_need_8 : decode cX6_need 8 = .ok (.invokestatic 171, 3) := by decide +kernel
theorem dX6_need_11 : decode cX6_need 11 = .ok (.ifCond .ne 5, 3) := by decide +kernel
theorem dX6_need_14 : decode cX6_need 14 = .ok (.iconst (-1), 1) := by decide +kernel
theorem dX6_need_15 : decode cX6_need 15 = .ok (.ireturn, 1) := by decide +kernel
theorem dX6_need_16 : decode cX6_need 16 = .ok (.aload_n 0, 1) := by decide +kernel
theorem dX6_need_17 : decode cX6_need 17 = .ok (.iload_n 1, 1) := by decide +kernel
theorem dX6_need_18 : decode cX6_need 18 = .ok (.iload_n 2, 1) := by decide +kernel
theorem dX6_need_19 : decode cX6_need 19 = .ok (.invokestatic 174, 3) := by decide +kernel
theorem dX6_need_22 : decode cX6_need 22 = .ok (.invokevirtual 185, 3) := by decide +kernel
theorem dX6_need_25 : decode cX6_need 25 = .ok (.ireturn, 1) := by decide +kernel
theorem dX6_staff_0 : decode cX6_staff 0 = .ok (.iload_n 1, 1) := by decide +kernel
theorem dX6_staff_1 : decode cX6_staff 1 = .ok (.invokestatic 85, 3) := by decide +kernel
theorem dX6_staff_4 : decode cX6_staff 4 = .ok (.ifCond .eq 10, 3) := by decide +kernel
theorem dX6_staff_7 : decode cX6_staff 7 = .ok (.iload_n 2, 1) := by decide +kernel
theorem dX6_staff_8 : decode cX6_staff 8 = .ok (.invokestatic 171, 3) := by decide +kernel
theorem dX6_staff_11 : decode cX6_staff 11 = .ok (.ifCond .ne 5, 3) := by decide +kernel
theorem dX6_staff_14 : decode cX6_staff 14 = .ok (.iconst (-1), 1) := by decide +kernel
theorem dX6_staff_15 : decode cX6_staff 15 = .ok (.ireturn, 1) := by decide +kernel
theorem dX6_staff_16 : decode cX6_staff 16 = .ok (.aload_n 0, 1) := by decide +kernel
theorem dX6_staff_17 : decode cX6_staff 17 = .ok (.iload_n 1, 1) := by decide +kernel
theorem dX6_staff_18 : decode cX6_staff 18 = .ok (.iload_n 2, 1) := by decide +kernel
theorem dX6_staff_19 : decode cX6_staff 19 = .ok (.invokestatic 174, 3) := by decide +kernel
theorem dX6_staff_22 : decode cX6_staff 22 = .ok (.invokevirtual 188, 3) := by decide +kernel
theorem dX6_staff_25 : decode cX6_staff 25 = .ok (.ireturn, 1) := by decide +kernel
theorem dX6_unsafeHours_0 : decode cX6_unsafeHours 0 = .ok (.iconst 0, 1) := by decide +kernel
theorem dX6_unsafeHours_1 : decode cX6_unsafeHours 1 = .ok (.istore_n 1, 1) := by decide +kernel
theorem dX6_unsafeHours_2 : decode cX6_unsafeHours 2 = .ok (.iconst 0, 1) := by decide +kernel
theorem dX6_unsafeHours_3 : decode cX6_unsafeHours 3 = .ok (.istore_n 2, 1) := by decide +kernel
theorem dX6_unsafeHours_4 : decode cX6_unsafeHours 4 = .ok (.iload_n 2, 1) := by decide +kernel
theorem dX6_unsafeHours_5 : decode cX6_unsafeHours 5 = .ok (.bipush 50, 2) := by decide +kernel
theorem dX6_unsafeHours_7 : decode cX6_unsafeHours 7 = .ok (.if_icmp .ge 25, 3) := by decide +kernel
theorem dX6_unsafeHours_10 : decode cX6_unsafeHours 10 = .ok (.aload_n 0, 1) := by decide +kernel
theorem dX6_unsafeHours_11 : decode cX6_unsafeHours 11 = .ok (.iload_n 2, 1) := by decide +kernel
theorem dX6_unsafeHours_12 : decode cX6_unsafeHours 12 = .ok (.invokevirtual 178, 3) := by decide +kernel
theorem dX6_unsafeHours_15 : decode cX6_unsafeHours 15 = .ok (.aload_n 0, 1) := by decide +kernel
theorem dX6_unsafeHours_16 : decode cX6_unsafeHours 16 = .ok (.iload_n 2, 1) := by decide +kernel
theorem dX6_unsafeHours_17 : decode cX6_unsafeHours 17 = .ok (.invokevirtual 191, 3) := by decide +kernel
theorem dX6_unsafeHours_20 : decode cX6_unsafeHours 20 = .ok (.ifCond .ne 6, 3) := by decide +kernel
theorem dX6_unsafeHours_23 : decode cX6_unsafeHours 23 = .ok (.iinc 1 1, 3) := by decide +kernel
theorem dX6_unsafeHours_26 : decode cX6_unsafeHours 26 = .ok (.iinc 2 1, 3) := by decide +kernel
theorem dX6_unsafeHours_29 : decode cX6_unsafeHours 29 = .ok (.goto (-25), 3) := by decide +kernel
theorem dX6_unsafeHours_32 : decode cX6_unsafeHours 32 = .ok (.iload_n 1, 1) := by decide +kernel
theorem dX6_unsafeHours_33 : decode cX6_unsafeHours 33 = .ok (.ireturn, 1) := by decide +kernel
theorem dX6_load_0 : decode cX6_load 0 = .ok (.iload_n 1, 1) := by decide +kernel
theorem dX6_load_1 : decode cX6_load 1 = .ok (.invokestatic 85, 3) := by decide +kernel
theorem dX6_load_4 : decode cX6_load 4 = .ok (.ifCond .ne 7, 3) := by decide +kernel
theorem dX6_load_7 : decode cX6_load 7 = .ok (.ldc2_w 194, 3) := by decide +kernel
theorem dX6_load_10 : decode cX6_load 10 = .ok (.dreturn, 1) := by decide +kernel
theorem dX6_load_11 : decode cX6_load 11 = .ok (.iconst 0, 1) := by decide +kernel
theorem dX6_load_12 : decode cX6_load 12 = .ok (.istore_n 2, 1) := by decide +kernel
theorem dX6_load_13 : decode cX6_load 13 = .ok (.iconst 0, 1) := by decide +kernel
theorem dX6_load_14 : decode cX6_load 14 = .ok (.istore_n 3, 1) := by decide +kernel
theorem dX6_load_15 : decode cX6_load 15 = .ok (.iconst 0, 1) := by decide +kernel
theorem dX6_load_16 : decode cX6_load 16 = .ok (.istore 4, 2) := by decide +kernel
theorem dX6_load_18 : decode cX6_load 18 = .ok (.iload 4, 2) := by decide +kernel
theorem dX6_load_20 : decode cX6_load 20 = .ok (.bipush 10, 2) := by decide +kernel
theorem dX6_load_22 : decode cX6_load 22 = .ok (.if_icmp .ge 29, 3) := by decide +kernel
theorem dX6_load_25 : decode cX6_load 25 = .ok (.iload_n 2, 1) := by decide +kernel
theorem dX6_load_26 : decode cX6_load 26 = .ok (.aload_n 0, 1) := by decide +kernel
theorem dX6_load_27 : decode cX6_load 27 = .ok (.iload_n 1, 1) := by decide +kernel
theorem dX6_load_28 : decode cX6_load 28 = .ok (.iload 4, 2) := by decide +kernel
theorem dX6_load_30 : decode cX6_load 30 = .ok (.invokevirtual 196, 3) := by decide +kernel
theorem dX6_load_33 : decode cX6_load 33 = .ok (.iadd, 1) := by decide +kernel
theorem dX6_load_34 : decode cX6_load 34 = .ok (.istore_n 2, 1) := by decide +kernel
theorem dX6_load_35 : decode cX6_load 35 = .ok (.iload_n 3, 1) := by decide +kernel
theorem dX6_load_36 : decode cX6_load 36 = .ok (.aload_n 0, 1) := by decide +kernel
theorem dX6_load_37 : decode cX6_load 37 = .ok (.iload_n 1, 1) := by decide +kernel
theorem dX6_load_38 : decode cX6_load 38 = .ok (.iload 4, 2) := by decide +kernel
theorem dX6_load_40 : decode cX6_load 40 = .ok (.invokevirtual 199, 3) := by decide +kernel
theorem dX6_load_43 : decode cX6_load 43 = .ok (.iadd, 1) := by decide +kernel
theorem dX6_load_44 : decode cX6_load 44 = .ok (.istore_n 3, 1) := by decide +kernel
theorem dX6_load_45 : decode cX6_load 45 = .ok (.iinc 4 1, 3) := by decide +kernel
theorem dX6_load_48 : decode cX6_load 48 = .ok (.goto (-30), 3) := by decide +kernel
theorem dX6_load_51 : decode cX6_load 51 = .ok (.iload_n 3, 1) := by decide +kernel
theorem dX6_load_52 : decode cX6_load 52 = .ok (.ifCond .ne 5, 3) := by decide +kernel
theorem dX6_load_55 : decode cX6_load 55 = .ok (.dconst 0, 1) := by decide +kernel
theorem dX6_load_56 : decode cX6_load 56 = .ok (.dreturn, 1) := by decide +kernel
theorem dX6_load_57 : decode cX6_load 57 = .ok (.iload_n 2, 1) := by decide +kernel
theorem dX6_load_58 : decode cX6_load 58 = .ok (.i2d, 1) := by decide +kernel
theorem dX6_load_59 : decode cX6_load 59 = .ok (.iload_n 3, 1) := by decide +kernel
theorem dX6_load_60 : decode cX6_load 60 = .ok (.i2d, 1) := by decide +kernel
theorem dX6_load_61 : decode cX6_load 61 = .ok (.ddiv, 1) := by decide +kernel
theorem dX6_load_62 : decode cX6_load 62 = .ok (.dreturn, 1) := by decide +kernel
theorem dX6_countHeads_0 : decode cX6_countHeads 0 = .ok (.aload_n 0, 1) := by decide +kernel
theorem dX6_countHeads_1 : decode cX6_countHeads 1 = .ok (.getfield 55, 3) := by decide +kernel
theorem dX6_countHeads_4 : decode cX6_countHeads 4 = .ok (.invokevirtual 202, 3) := by decide +kernel
theorem dX6_countHeads_7 : decode cX6_countHeads 7 = .ok (.aload_n 0, 1) := by decide +kernel
theorem dX6_countHeads_8 : decode cX6_countHeads 8 = .ok (.getfield 11, 3) := by decide +kernel
theorem dX6_countHeads_11 : decode cX6_countHeads 11 = .ok (.astore_n 2, 1) := by decide +kernel
theorem dX6_countHeads_12 : decode cX6_countHeads 12 = .ok (.aload_n 2, 1) := by decide +kernel
theorem dX6_countHeads_13 : decode cX6_countHeads 13 = .ok (.arraylength, 1) := by decide +kernel
theorem dX6_countHeads_14 : decode cX6_countHeads 14 = .ok (.istore_n 3, 1) := by decide +kernel
theorem dX6_countHeads_15 : decode cX6_countHeads 15 = .ok (.iconst 0, 1) := by decide +kernel
theorem dX6_countHeads_16 : decode cX6_countHeads 16 = .ok (.istore 4, 2) := by decide +kernel
theorem dX6_countHeads_18 : decode cX6_countHeads 18 = .ok (.iload 4, 2) := by decide +kernel
theorem dX6_countHeads_20 : decode cX6_countHeads 20 = .ok (.iload_n 3, 1) := by decide +kernel
theorem dX6_countHeads_21 : decode cX6_countHeads 21 = .ok (.if_icmp .ge 52, 3) := by decide +kernel
theorem dX6_countHeads_24 : decode cX6_countHeads 24 = .ok (.aload_n 2, 1) := by decide +kernel
theorem dX6_countHeads_25 : decode cX6_countHeads 25 = .ok (.iload 4, 2) := by decide +kernel
theorem dX6_countHeads_27 : decode cX6_countHeads 27 = .ok (.aaload, 1) := by decide +kernel
theorem dX6_countHeads_28 : decode cX6_countHeads 28 = .ok (.astore 5, 2) := by decide +kernel
theorem dX6_countHeads_30 : decode cX6_countHeads 30 = .ok (.aload 5, 2) := by decide +kernel
theorem dX6_countHeads_32 : decode cX6_countHeads 32 = .ok (.ifnull 35, 3) := by decide +kernel
theorem dX6_countHeads_35 : decode cX6_countHeads 35 = .ok (.aload 5, 2) := by decide +kernel
theorem dX6_countHeads_37 : decode cX6_countHeads 37 = .ok (.getfield 78, 3) := by decide +kernel
theorem dX6_countHeads_40 : decode cX6_countHeads 40 = .ok (.ifCond .eq 27, 3) := by decide +kernel
theorem dX6_countHeads_43 : decode cX6_countHeads 43 = .ok (.aload 5, 2) := by decide +kernel
theorem dX6_countHeads_45 : decode cX6_countHeads 45 = .ok (.getfield 93, 3) := by decide +kernel
theorem dX6_countHeads_48 : decode cX6_countHeads 48 = .ok (.iload_n 1, 1) := by decide +kernel
theorem dX6_countHeads_49 : decode cX6_countHeads 49 = .ok (.invokestatic 205, 3) := by decide +kernel
theorem dX6_countHeads_52 : decode cX6_countHeads 52 = .ok (.ifCond .eq 15, 3) := by decide +kernel
theorem dX6_countHeads_55 : decode cX6_countHeads 55 = .ok (.aload_n 0, 1) := by decide +kernel
theorem dX6_countHeads_56 : decode cX6_countHeads 56 = .ok (.getfield 55, 3) := by decide +kernel
theorem dX6_countHeads_59 : decode cX6_countHeads 59 = .ok (.aload 5, 2) := by decide +kernel
theorem dX6_countHeads_61 : decode cX6_countHeads 61 = .ok (.invokevirtual 209, 3) := by decide +kernel
theorem dX6_countHeads_64 : decode cX6_countHeads 64 = .ok (.invokevirtual 212, 3) := by decide +kernel
theorem dX6_countHeads_67 : decode cX6_countHeads 67 = .ok (.iinc 4 1, 3) := by decide +kernel
theorem dX6_countHeads_70 : decode cX6_countHeads 70 = .ok (.goto (-52), 3) := by decide +kernel
theorem dX6_countHeads_73 : decode cX6_countHeads 73 = .ok (.return_, 1) := by decide +kernel
theorem dX6_needIn_0 : decode cX6_needIn 0 = .ok (.aload_n 0, 1) := by decide +kernel
theorem dX6_needIn_1 : decode cX6_needIn 1 = .ok (.iload_n 1, 1) := by decide +kernel
theorem dX6_needIn_2 : decode cX6_needIn 2 = .ok (.invokevirtual 178, 3) := by decide +kernel
theorem dX6_needIn_5 : decode cX6_needIn 5 = .ok (.aload_n 0, 1) := by decide +kernel
theorem dX6_needIn_6 : decode cX6_needIn 6 = .ok (.getfield 55, 3) := by decide +kernel
theorem dX6_needIn_9 : decode cX6_needIn 9 = .ok (.aload_n 0, 1) := by decide +kernel
theorem dX6_needIn_10 : decode cX6_needIn 10 = .ok (.getfield 21, 3) := by decide +kernel
theorem dX6_needIn_13 : decode cX6_needIn 13 = .ok (.iconst 0, 1) := by decide +kernel
theorem dX6_needIn_14 : decode cX6_needIn 14 = .ok (.iaload, 1) := by decide +kernel
theorem dX6_needIn_15 : decode cX6_needIn 15 = .ok (.aload_n 0, 1) := by decide +kernel
theorem dX6_needIn_16 : decode cX6_needIn 16 = .ok (.getfield 21, 3) := by decide +kernel
theorem dX6_needIn_19 : decode cX6_needIn 19 = .ok (.iconst 1, 1) := by decide +kernel
theorem dX6_needIn_20 : decode cX6_needIn 20 = .ok (.iaload, 1) := by decide +kernel
theorem dX6_needIn_21 : decode cX6_needIn 21 = .ok (.aload_n 0, 1) := by decide +kernel
theorem dX6_needIn_22 : decode cX6_needIn 22 = .ok (.getfield 21, 3) := by decide +kernel
theorem dX6_needIn_25 : decode cX6_needIn 25 = .ok (.iconst 2, 1) := by decide +kernel
theorem dX6_needIn_26 : decode cX6_needIn 26 = .ok (.iaload, 1) := by decide +kernel
theorem dX6_needIn_27 : decode cX6_needIn 27 = .ok (.invokevirtual 215, 3) := by decide +kernel
theorem dX6_needIn_30 : decode cX6_needIn 30 = .ok (.ireturn, 1) := by decide +kernel
theorem dX6_staffIn_0 : decode cX6_staffIn 0 = .ok (.iconst 0, 1) := by decide +kernel
theorem dX6_staffIn_1 : decode cX6_staffIn 1 = .ok (.istore_n 2, 1) := by decide +kernel
theorem dX6_staffIn_2 : decode cX6_staffIn 2 = .ok (.aload_n 0, 1) := by decide +kernel
theorem dX6_staffIn_3 : decode cX6_staffIn 3 = .ok (.getfield 17, 3) := by decide +kernel
theorem dX6_staffIn_6 : decode cX6_staffIn 6 = .ok (.astore_n 3, 1) := by decide +kernel
theorem dX6_staffIn_7 : decode cX6_staffIn 7 = .ok (.aload_n 3, 1) := by decide +kernel
theorem dX6_staffIn_8 : decode cX6_staffIn 8 = .ok (.arraylength, 1) := by decide +kernel
theorem dX6_staffIn_9 : decode cX6_staffIn 9 = .ok (.istore 4, 2) := by decide +kernel
theorem dX6_staffIn_11 : decode cX6_staffIn 11 = .ok (.iconst 0, 1) := by decide +kernel
theorem dX6_staffIn_12 : decode cX6_staffIn 12 = .ok (.istore 5, 2) := by decide +kernel
theorem dX6_staffIn_14 : decode cX6_staffIn 14 = .ok (.iload 5, 2) := by decide +kernel
theorem dX6_staffIn_16 : decode cX6_staffIn 16 = .ok (.iload 4, 2) := by decide +kernel
theorem dX6_staffIn_18 : decode cX6_staffIn 18 = .ok (.if_icmp .ge 35, 3) := by decide +kernel
theorem dX6_staffIn_21 : decode cX6_staffIn 21 = .ok (.aload_n 3, 1) := by decide +kernel
theorem dX6_staffIn_22 : decode cX6_staffIn 22 = .ok (.iload 5, 2) := by decide +kernel
theorem dX6_staffIn_24 : decode cX6_staffIn 24 = .ok (.aaload, 1) := by decide +kernel
theorem dX6_staffIn_25 : decode cX6_staffIn 25 = .ok (.astore 6, 2) := by decide +kernel
theorem dX6_staffIn_27 : decode cX6_staffIn 27 = .ok (.aload 6, 2) := by decide +kernel
theorem dX6_staffIn_29 : decode cX6_staffIn 29 = .ok (.ifnull 18, 3) := by decide +kernel
theorem dX6_staffIn_32 : decode cX6_staffIn 32 = .ok (.aload 6, 2) := by decide +kernel
theorem dX6_staffIn_34 : decode cX6_staffIn 34 = .ok (.getfield 153, 3) := by decide +kernel
theorem dX6_staffIn_37 : decode cX6_staffIn 37 = .ok (.iload_n 1, 1) := by decide +kernel
theorem dX6_staffIn_38 : decode cX6_staffIn 38 = .ok (.invokestatic 205, 3) := by decide +kernel
theorem dX6_staffIn_41 : decode cX6_staffIn 41 = .ok (.ifCond .eq 6, 3) := by decide +kernel
theorem dX6_staffIn_44 : decode cX6_staffIn 44 = .ok (.iinc 2 1, 3) := by decide +kernel
theorem dX6_staffIn_47 : decode cX6_staffIn 47 = .ok (.iinc 5 1, 3) := by decide +kernel
theorem dX6_staffIn_50 : decode cX6_staffIn 50 = .ok (.goto (-36), 3) := by decide +kernel
theorem dX6_staffIn_53 : decode cX6_staffIn 53 = .ok (.iload_n 2, 1) := by decide +kernel
theorem dX6_staffIn_54 : decode cX6_staffIn 54 = .ok (.ireturn, 1) := by decide +kernel
theorem dX6_areHeadsSafe_0 : decode cX6_areHeadsSafe 0 = .ok (.aload_n 0, 1) := by decide +kernel
theorem dX6_areHeadsSafe_1 : decode cX6_areHeadsSafe 1 = .ok (.getfield 55, 3) := by decide +kernel
theorem dX6_areHeadsSafe_4 : decode cX6_areHeadsSafe 4 = .ok (.invokevirtual 182, 3) := by decide +kernel
theorem dX6_areHeadsSafe_7 : decode cX6_areHeadsSafe 7 = .ok (.aload_n 0, 1) := by decide +kernel
theorem dX6_areHeadsSafe_8 : decode cX6_areHeadsSafe 8 = .ok (.getfield 28, 3) := by decide +kernel
theorem dX6_areHeadsSafe_11 : decode cX6_areHeadsSafe 11 = .ok (.if_icmp .gt 40, 3) := by decide +kernel
theorem dX6_areHeadsSafe_14 : decode cX6_areHeadsSafe 14 = .ok (.aload_n 0, 1) := by decide +kernel
theorem dX6_areHeadsSafe_15 : decode cX6_areHeadsSafe 15 = .ok (.getfield 55, 3) := by decide +kernel
theorem dX6_areHeadsSafe_18 : decode cX6_areHeadsSafe 18 = .ok (.aload_n 0, 1) := by decide +kernel
theorem dX6_areHeadsSafe_19 : decode cX6_areHeadsSafe 19 = .ok (.getfield 21, 3) := by decide +kernel
theorem dX6_areHeadsSafe_22 : decode cX6_areHeadsSafe 22 = .ok (.iconst 0, 1) := by decide +kernel
theorem dX6_areHeadsSafe_23 : decode cX6_areHeadsSafe 23 = .ok (.iaload, 1) := by decide +kernel
theorem dX6_areHeadsSafe_24 : decode cX6_areHeadsSafe 24 = .ok (.aload_n 0, 1) := by decide +kernel
theorem dX6_areHeadsSafe_25 : decode cX6_areHeadsSafe 25 = .ok (.getfield 21, 3) := by decide +kernel
theorem dX6_areHeadsSafe_28 : decode cX6_areHeadsSafe 28 = .ok (.iconst 1, 1) := by decide +kernel
theorem dX6_areHeadsSafe_29 : decode cX6_areHeadsSafe 29 = .ok (.iaload, 1) := by decide +kernel
theorem dX6_areHeadsSafe_30 : decode cX6_areHeadsSafe 30 = .ok (.aload_n 0, 1) := by decide +kernel
theorem dX6_areHeadsSafe_31 : decode cX6_areHeadsSafe 31 = .ok (.getfield 21, 3) := by decide +kernel
theorem dX6_areHeadsSafe_34 : decode cX6_areHeadsSafe 34 = .ok (.iconst 2, 1) := by decide +kernel
theorem dX6_areHeadsSafe_35 : decode cX6_areHeadsSafe 35 = .ok (.iaload, 1) := by decide +kernel
theorem dX6_areHeadsSafe_36 : decode cX6_areHeadsSafe 36 = .ok (.invokevirtual 215, 3) := by decide +kernel
theorem dX6_areHeadsSafe_39 : decode cX6_areHeadsSafe 39 = .ok (.aload_n 0, 1) := by decide +kernel
theorem dX6_areHeadsSafe_40 : decode cX6_areHeadsSafe 40 = .ok (.iload_n 1, 1) := by decide +kernel
theorem dX6_areHeadsSafe_41 : decode cX6_areHeadsSafe 41 = .ok (.invokevirtual 188, 3) := by decide +kernel
theorem dX6_areHeadsSafe_44 : decode cX6_areHeadsSafe 44 = .ok (.if_icmp .gt 7, 3) := by decide +kernel
theorem dX6_areHeadsSafe_47 : decode cX6_areHeadsSafe 47 = .ok (.iconst 1, 1) := by decide +kernel
theorem dX6_areHeadsSafe_48 : decode cX6_areHeadsSafe 48 = .ok (.goto 4, 3) := by decide +kernel
theorem dX6_areHeadsSafe_51 : decode cX6_areHeadsSafe 51 = .ok (.iconst 0, 1) := by decide +kernel
theorem dX6_areHeadsSafe_52 : decode cX6_areHeadsSafe 52 = .ok (.ireturn, 1) := by decide +kernel
theorem dX6_areSafeWith_0 : decode cX6_areSafeWith 0 = .ok (.iconst 0, 1) := by decide +kernel
theorem dX6_areSafeWith_1 : decode cX6_areSafeWith 1 = .ok (.istore 4, 2) := by decide +kernel
theorem dX6_areSafeWith_3 : decode cX6_areSafeWith 3 = .ok (.iload 4, 2) := by decide +kernel
theorem dX6_areSafeWith_5 : decode cX6_areSafeWith 5 = .ok (.bipush 50, 2) := by decide +kernel
theorem dX6_areSafeWith_7 : decode cX6_areSafeWith 7 = .ok (.if_icmp .ge 46, 3) := by decide +kernel
theorem dX6_areSafeWith_10 : decode cX6_areSafeWith 10 = .ok (.lload_n 1, 1) := by decide +kernel
theorem dX6_areSafeWith_11 : decode cX6_areSafeWith 11 = .ok (.iload 4, 2) := by decide +kernel
theorem dX6_areSafeWith_13 : decode cX6_areSafeWith 13 = .ok (.invokestatic 205, 3) := by decide +kernel
theorem dX6_areSafeWith_16 : decode cX6_areSafeWith 16 = .ok (.ifCond .eq 31, 3) := by decide +kernel
theorem dX6_areSafeWith_19 : decode cX6_areSafeWith 19 = .ok (.aload_n 0, 1) := by decide +kernel
theorem dX6_areSafeWith_20 : decode cX6_areSafeWith 20 = .ok (.iload 4, 2) := by decide +kernel
theorem dX6_areSafeWith_22 : decode cX6_areSafeWith 22 = .ok (.invokevirtual 178, 3) := by decide +kernel
theorem dX6_areSafeWith_25 : decode cX6_areSafeWith 25 = .ok (.aload_n 0, 1) := by decide +kernel
theorem dX6_areSafeWith_26 : decode cX6_areSafeWith 26 = .ok (.getfield 55, 3) := by decide +kernel
theorem dX6_areSafeWith_29 : decode cX6_areSafeWith 29 = .ok (.aload_n 3, 1) := by decide +kernel
theorem dX6_areSafeWith_30 : decode cX6_areSafeWith 30 = .ok (.invokevirtual 209, 3) := by decide +kernel
theorem dX6_areSafeWith_33 : decode cX6_areSafeWith 33 = .ok (.invokevirtual 212, 3) := by decide +kernel
theorem dX6_areSafeWith_36 : decode cX6_areSafeWith 36 = .ok (.aload_n 0, 1) := by decide +kernel
theorem dX6_areSafeWith_37 : decode cX6_areSafeWith 37 = .ok (.iload 4, 2) := by decide +kernel
theorem dX6_areSafeWith_39 : decode cX6_areSafeWith 39 = .ok (.invokevirtual 191, 3) := by decide +kernel
theorem dX6_areSafeWith_42 : decode cX6_areSafeWith 42 = .ok (.ifCond .ne 5, 3) := by decide +kernel
theorem dX6_areSafeWith_45 : decode cX6_areSafeWith 45 = .ok (.iconst 0, 1) := by decide +kernel
theorem dX6_areSafeWith_46 : decode cX6_areSafeWith 46 = .ok (.ireturn, 1) := by decide +kernel
theorem dX6_areSafeWith_47 : decode cX6_areSafeWith 47 = .ok (.iinc 4 1, 3) := by decide +kernel
theorem dX6_areSafeWith_50 : decode cX6_areSafeWith 50 = .ok (.goto (-47), 3) := by decide +kernel
theorem dX6_areSafeWith_53 : decode cX6_areSafeWith 53 = .ok (.iconst 1, 1) := by decide +kernel
theorem dX6_areSafeWith_54 : decode cX6_areSafeWith 54 = .ok (.ireturn, 1) := by decide +kernel
theorem dX6_setRate_0 : decode cX6_setRate 0 = .ok (.iload_n 1, 1) := by decide +kernel
theorem dX6_setRate_1 : decode cX6_setRate 1 = .ok (.invokestatic 168, 3) := by decide +kernel
theorem dX6_setRate_4 : decode cX6_setRate 4 = .ok (.ifCond .eq 14, 3) := by decide +kernel
theorem dX6_setRate_7 : decode cX6_setRate 7 = .ok (.iload_n 2, 1) := by decide +kernel
theorem dX6_setRate_8 : decode cX6_setRate 8 = .ok (.ifCond .lt 10, 3) := by decide +kernel
theorem dX6_setRate_11 : decode cX6_setRate 11 = .ok (.iload_n 2, 1) := by decide +kernel
theorem dX6_setRate_12 : decode cX6_setRate 12 = .ok (.sipush 5000, 3) := by decide +kernel
theorem dX6_setRate_15 : decode cX6_setRate 15 = .ok (.if_icmp .le 5, 3) := by decide +kernel
theorem dX6_setRate_18 : decode cX6_setRate 18 = .ok (.iconst (-1), 1) := by decide +kernel
theorem dX6_setRate_19 : decode cX6_setRate 19 = .ok (.ireturn, 1) := by decide +kernel
theorem dX6_setRate_20 : decode cX6_setRate 20 = .ok (.aload_n 0, 1) := by decide +kernel
theorem dX6_setRate_21 : decode cX6_setRate 21 = .ok (.getfield 25, 3) := by decide +kernel
theorem dX6_setRate_24 : decode cX6_setRate 24 = .ok (.iload_n 1, 1) := by decide +kernel
theorem dX6_setRate_25 : decode cX6_setRate 25 = .ok (.iaload, 1) := by decide +kernel
theorem dX6_setRate_26 : decode cX6_setRate 26 = .ok (.istore_n 3, 1) := by decide +kernel
theorem dX6_setRate_27 : decode cX6_setRate 27 = .ok (.aload_n 0, 1) := by decide +kernel
theorem dX6_setRate_28 : decode cX6_setRate 28 = .ok (.getfield 25, 3) := by decide +kernel
theorem dX6_setRate_31 : decode cX6_setRate 31 = .ok (.iload_n 1, 1) := by decide +kernel
theorem dX6_setRate_32 : decode cX6_setRate 32 = .ok (.iload_n 2, 1) := by decide +kernel
theorem dX6_setRate_33 : decode cX6_setRate 33 = .ok (.iastore, 1) := by decide +kernel
theorem dX6_setRate_34 : decode cX6_setRate 34 = .ok (.iload_n 3, 1) := by decide +kernel
theorem dX6_setRate_35 : decode cX6_setRate 35 = .ok (.ireturn, 1) := by decide +kernel
theorem dX6_fee_0 : decode cX6_fee 0 = .ok (.aload_n 0, 1) := by decide +kernel
theorem dX6_fee_1 : decode cX6_fee 1 = .ok (.iload_n 1, 1) := by decide +kernel
theorem dX6_fee_2 : decode cX6_fee 2 = .ok (.invokevirtual 68, 3) := by decide +kernel
theorem dX6_fee_5 : decode cX6_fee 5 = .ok (.astore_n 2, 1) := by decide +kernel
theorem dX6_fee_6 : decode cX6_fee 6 = .ok (.aload_n 2, 1) := by decide +kernel
theorem dX6_fee_7 : decode cX6_fee 7 = .ok (.ifnonnull 5, 3) := by decide +kernel
theorem dX6_fee_10 : decode cX6_fee 10 = .ok (.iconst (-1), 1) := by decide +kernel
theorem dX6_fee_11 : decode cX6_fee 11 = .ok (.ireturn, 1) := by decide +kernel
theorem dX6_fee_12 : decode cX6_fee 12 = .ok (.aload_n 2, 1) := by decide +kernel
theorem dX6_fee_13 : decode cX6_fee 13 = .ok (.getfield 78, 3) := by decide +kernel
theorem dX6_fee_16 : decode cX6_fee 16 = .ok (.ifCond .eq 13, 3) := by decide +kernel
theorem dX6_fee_19 : decode cX6_fee 19 = .ok (.aload_n 0, 1) := by decide +kernel
theorem dX6_fee_20 : decode cX6_fee 20 = .ok (.aload_n 2, 1) := by decide +kernel
theorem dX6_fee_21 : decode cX6_fee 21 = .ok (.iload_n 1, 1) := by decide +kernel
theorem dX6_fee_22 : decode cX6_fee 22 = .ok (.iconst (-1), 1) := by decide +kernel
theorem dX6_fee_23 : decode cX6_fee 23 = .ok (.invokevirtual 219, 3) := by decide +kernel
theorem dX6_fee_26 : decode cX6_fee 26 = .ok (.goto 5, 3) := by decide +kernel
theorem dX6_fee_29 : decode cX6_fee 29 = .ok (.bipush (-2), 2) := by decide +kernel
theorem dX6_fee_31 : decode cX6_fee 31 = .ok (.ireturn, 1) := by decide +kernel
theorem dX6_income_0 : decode cX6_income 0 = .ok (.iconst 0, 1) := by decide +kernel
theorem dX6_income_1 : decode cX6_income 1 = .ok (.istore_n 1, 1) := by decide +kernel
theorem dX6_income_2 : decode cX6_income 2 = .ok (.iconst 0, 1) := by decide +kernel
theorem dX6_income_3 : decode cX6_income 3 = .ok (.istore_n 2, 1) := by decide +kernel
theorem dX6_income_4 : decode cX6_income 4 = .ok (.iload_n 2, 1) := by decide +kernel
theorem dX6_income_5 : decode cX6_income 5 = .ok (.bipush 12, 2) := by decide +kernel
theorem dX6_income_7 : decode cX6_income 7 = .ok (.if_icmp .ge 18, 3) := by decide +kernel
theorem dX6_income_10 : decode cX6_income 10 = .ok (.iload_n 1, 1) := by decide +kernel
theorem dX6_income_11 : decode cX6_income 11 = .ok (.aload_n 0, 1) := by decide +kernel
theorem dX6_income_12 : decode cX6_income 12 = .ok (.iload_n 2, 1) := by decide +kernel
theorem dX6_income_13 : decode cX6_income 13 = .ok (.iconst (-1), 1) := by decide +kernel
theorem dX6_income_14 : decode cX6_income 14 = .ok (.invokevirtual 223, 3) := by decide +kernel
theorem dX6_income_17 : decode cX6_income 17 = .ok (.iadd, 1) := by decide +kernel
theorem dX6_income_18 : decode cX6_income 18 = .ok (.istore_n 1, 1) := by decide +kernel
theorem dX6_income_19 : decode cX6_income 19 = .ok (.iinc 2 1, 3) := by decide +kernel
theorem dX6_income_22 : decode cX6_income 22 = .ok (.goto (-18), 3) := by decide +kernel
theorem dX6_income_25 : decode cX6_income 25 = .ok (.iload_n 1, 1) := by decide +kernel
theorem dX6_income_26 : decode cX6_income 26 = .ok (.ireturn, 1) := by decide +kernel
theorem dX6_familyFeeIfAdmitted_0 : decode cX6_familyFeeIfAdmitted 0 = .ok (.aload_n 0, 1) := by decide +kernel
theorem dX6_familyFeeIfAdmitted_1 : decode cX6_familyFeeIfAdmitted 1 = .ok (.iload_n 1, 1) := by decide +kernel
theorem dX6_familyFeeIfAdmitted_2 : decode cX6_familyFeeIfAdmitted 2 = .ok (.invokevirtual 68, 3) := by decide +kernel
theorem dX6_familyFeeIfAdmitted_5 : decode cX6_familyFeeIfAdmitted 5 = .ok (.astore_n 2, 1) := by decide +kernel
theorem dX6_familyFeeIfAdmitted_6 : decode cX6_familyFeeIfAdmitted 6 = .ok (.aload_n 2, 1) := by decide +kernel
theorem dX6_familyFeeIfAdmitted_7 : decode cX6_familyFeeIfAdmitted 7 = .ok (.ifnonnull 5, 3) := by decide +kernel
theorem dX6_familyFeeIfAdmitted_10 : decode cX6_familyFeeIfAdmitted 10 = .ok (.iconst (-1), 1) := by decide +kernel
theorem dX6_familyFeeIfAdmitted_11 : decode cX6_familyFeeIfAdmitted 11 = .ok (.ireturn, 1) := by decide +kernel
theorem dX6_familyFeeIfAdmitted_12 : decode cX6_familyFeeIfAdmitted 12 = .ok (.aload_n 2, 1) := by decide +kernel
theorem dX6_familyFeeIfAdmitted_13 : decode cX6_familyFeeIfAdmitted 13 = .ok (.getfield 78, 3) := by decide +kernel
theorem dX6_familyFeeIfAdmitted_16 : decode cX6_familyFeeIfAdmitted 16 = .ok (.ifCond .eq 8, 3) := by decide +kernel
theorem dX6_familyFeeIfAdmitted_19 : decode cX6_familyFeeIfAdmitted 19 = .ok (.bipush (-2), 2) := by decide +kernel
theorem dX6_familyFeeIfAdmitted_21 : decode cX6_familyFeeIfAdmitted 21 = .ok (.goto 12, 3) := by decide +kernel
theorem dX6_familyFeeIfAdmitted_24 : decode cX6_familyFeeIfAdmitted 24 = .ok (.aload_n 0, 1) := by decide +kernel
theorem dX6_familyFeeIfAdmitted_25 : decode cX6_familyFeeIfAdmitted 25 = .ok (.aload_n 2, 1) := by decide +kernel
theorem dX6_familyFeeIfAdmitted_26 : decode cX6_familyFeeIfAdmitted 26 = .ok (.getfield 132, 3) := by decide +kernel
theorem dX6_familyFeeIfAdmitted_29 : decode cX6_familyFeeIfAdmitted 29 = .ok (.iload_n 1, 1) := by decide +kernel
theorem dX6_familyFeeIfAdmitted_30 : decode cX6_familyFeeIfAdmitted 30 = .ok (.invokevirtual 223, 3) := by decide +kernel
theorem dX6_familyFeeIfAdmitted_33 : decode cX6_familyFeeIfAdmitted 33 = .ok (.ireturn, 1) := by decide +kernel
theorem dX6_familyFee_0 : decode cX6_familyFee 0 = .ok (.iconst 0, 1) := by decide +kernel
theorem dX6_familyFee_1 : decode cX6_familyFee 1 = .ok (.istore_n 3, 1) := by decide +kernel
theorem dX6_familyFee_2 : decode cX6_familyFee 2 = .ok (.iconst 0, 1) := by decide +kernel
theorem dX6_familyFee_3 : decode cX6_familyFee 3 = .ok (.istore 4, 2) := by decide +kernel
theorem dX6_familyFee_5 : decode cX6_familyFee 5 = .ok (.iload 4, 2) := by decide +kernel
theorem dX6_familyFee_7 : decode cX6_familyFee 7 = .ok (.aload_n 0, 1) := by decide +kernel
theorem dX6_familyFee_8 : decode cX6_familyFee 8 = .ok (.getfield 11, 3) := by decide +kernel
theorem dX6_familyFee_11 : decode cX6_familyFee 11 = .ok (.arraylength, 1) := by decide +kernel
theorem dX6_familyFee_12 : decode cX6_familyFee 12 = .ok (.if_icmp .ge 56, 3) := by decide +kernel
theorem dX6_familyFee_15 : decode cX6_familyFee 15 = .ok (.aload_n 0, 1) := by decide +kernel
theorem dX6_familyFee_16 : decode cX6_familyFee 16 = .ok (.getfield 11, 3) := by decide +kernel
theorem dX6_familyFee_19 : decode cX6_familyFee 19 = .ok (.iload 4, 2) := by decide +kernel
theorem dX6_familyFee_21 : decode cX6_familyFee 21 = .ok (.aaload, 1) := by decide +kernel
theorem dX6_familyFee_22 : decode cX6_familyFee 22 = .ok (.astore 5, 2) := by decide +kernel
theorem dX6_familyFee_24 : decode cX6_familyFee 24 = .ok (.aload 5, 2) := by decide +kernel
theorem dX6_familyFee_26 : decode cX6_familyFee 26 = .ok (.ifnull 36, 3) := by decide +kernel
theorem dX6_familyFee_29 : decode cX6_familyFee 29 = .ok (.aload 5, 2) := by decide +kernel
theorem dX6_familyFee_31 : decode cX6_familyFee 31 = .ok (.getfield 132, 3) := by decide +kernel
theorem dX6_familyFee_34 : decode cX6_familyFee 34 = .ok (.iload_n 1, 1) := by decide +kernel
theorem dX6_familyFee_35 : decode cX6_familyFee 35 = .ok (.if_icmp .ne 27, 3) := by decide +kernel
theorem dX6_familyFee_38 : decode cX6_familyFee 38 = .ok (.aload_n 0, 1) := by decide +kernel
theorem dX6_familyFee_39 : decode cX6_familyFee 39 = .ok (.aload 5, 2) := by decide +kernel
theorem dX6_familyFee_41 : decode cX6_familyFee 41 = .ok (.iload 4, 2) := by decide +kernel
theorem dX6_familyFee_43 : decode cX6_familyFee 43 = .ok (.iload_n 2, 1) := by decide +kernel
theorem dX6_familyFee_44 : decode cX6_familyFee 44 = .ok (.invokevirtual 226, 3) := by decide +kernel
theorem dX6_familyFee_47 : decode cX6_familyFee 47 = .ok (.ifCond .eq 15, 3) := by decide +kernel
theorem dX6_familyFee_50 : decode cX6_familyFee 50 = .ok (.iload_n 3, 1) := by decide +kernel
theorem dX6_familyFee_51 : decode cX6_familyFee 51 = .ok (.aload_n 0, 1) := by decide +kernel
theorem dX6_familyFee_52 : decode cX6_familyFee 52 = .ok (.aload 5, 2) := by decide +kernel
theorem dX6_familyFee_54 : decode cX6_familyFee 54 = .ok (.iload 4, 2) := by decide +kernel
theorem dX6_familyFee_56 : decode cX6_familyFee 56 = .ok (.iload_n 2, 1) := by decide +kernel
theorem dX6_familyFee_57 : decode cX6_familyFee 57 = .ok (.invokevirtual 219, 3) := by decide +kernel
theorem dX6_familyFee_60 : decode cX6_familyFee 60 = .ok (.iadd, 1) := by decide +kernel
theorem dX6_familyFee_61 : decode cX6_familyFee 61 = .ok (.istore_n 3, 1) := by decide +kernel
theorem dX6_familyFee_62 : decode cX6_familyFee 62 = .ok (.iinc 4 1, 3) := by decide +kernel
theorem dX6_familyFee_65 : decode cX6_familyFee 65 = .ok (.goto (-60), 3) := by decide +kernel
theorem dX6_familyFee_68 : decode cX6_familyFee 68 = .ok (.iload_n 3, 1) := by decide +kernel
theorem dX6_familyFee_69 : decode cX6_familyFee 69 = .ok (.ireturn, 1) := by decide +kernel
theorem dX6_pays_0 : decode cX6_pays 0 = .ok (.aload_n 1, 1) := by decide +kernel
theorem dX6_pays_1 : decode cX6_pays 1 = .ok (.getfield 78, 3) := by decide +kernel
theorem dX6_pays_4 : decode cX6_pays 4 = .ok (.ifCond .ne 8, 3) := by decide +kernel
theorem dX6_pays_7 : decode cX6_pays 7 = .ok (.iload_n 2, 1) := by decide +kernel
theorem dX6_pays_8 : decode cX6_pays 8 = .ok (.iload_n 3, 1) := by decide +kernel
theorem dX6_pays_9 : decode cX6_pays 9 = .ok (.if_icmp .ne 7, 3) := by decide +kernel
theorem dX6_pays_12 : decode cX6_pays 12 = .ok (.iconst 1, 1) := by decide +kernel
theorem dX6_pays_13 : decode cX6_pays 13 = .ok (.goto 4, 3) := by decide +kernel
theorem dX6_pays_16 : decode cX6_pays 16 = .ok (.iconst 0, 1) := by decide +kernel
theorem dX6_pays_17 : decode cX6_pays 17 = .ok (.ireturn, 1) := by decide +kernel
theorem dX6_feeOf_0 : decode cX6_feeOf 0 = .ok (.aload_n 1, 1) := by decide +kernel
theorem dX6_feeOf_1 : decode cX6_feeOf 1 = .ok (.invokevirtual 209, 3) := by decide +kernel
theorem dX6_feeOf_4 : decode cX6_feeOf 4 = .ok (.istore 4, 2) := by decide +kernel
theorem dX6_feeOf_6 : decode cX6_feeOf 6 = .ok (.iload 4, 2) := by decide +kernel
theorem dX6_feeOf_8 : decode cX6_feeOf 8 = .ok (.invokestatic 168, 3) := by decide +kernel
theorem dX6_feeOf_11 : decode cX6_feeOf 11 = .ok (.ifCond .ne 5, 3) := by decide +kernel
theorem dX6_feeOf_14 : decode cX6_feeOf 14 = .ok (.iconst 0, 1) := by decide +kernel
theorem dX6_feeOf_15 : decode cX6_feeOf 15 = .ok (.ireturn, 1) := by decide +kernel
theorem dX6_feeOf_16 : decode cX6_feeOf 16 = .ok (.iconst 4, 1) := by decide +kernel
theorem dX6_feeOf_17 : decode cX6_feeOf 17 = .ok (.aload_n 1, 1) := by decide +kernel
theorem dX6_feeOf_18 : decode cX6_feeOf 18 = .ok (.invokevirtual 82, 3) := by decide +kernel
theorem dX6_feeOf_21 : decode cX6_feeOf 21 = .ok (.imul, 1) := by decide +kernel
theorem dX6_feeOf_22 : decode cX6_feeOf 22 = .ok (.aload_n 0, 1) := by decide +kernel
theorem dX6_feeOf_23 : decode cX6_feeOf 23 = .ok (.getfield 25, 3) := by decide +kernel
theorem dX6_feeOf_26 : decode cX6_feeOf 26 = .ok (.iload 4, 2) := by decide +kernel
theorem dX6_feeOf_28 : decode cX6_feeOf 28 = .ok (.iaload, 1) := by decide +kernel
theorem dX6_feeOf_29 : decode cX6_feeOf 29 = .ok (.imul, 1) := by decide +kernel
theorem dX6_feeOf_30 : decode cX6_feeOf 30 = .ok (.aload_n 0, 1) := by decide +kernel
theorem dX6_feeOf_31 : decode cX6_feeOf 31 = .ok (.aload_n 1, 1) := by decide +kernel
theorem dX6_feeOf_32 : decode cX6_feeOf 32 = .ok (.iload_n 2, 1) := by decide +kernel
theorem dX6_feeOf_33 : decode cX6_feeOf 33 = .ok (.iload_n 3, 1) := by decide +kernel
theorem dX6_feeOf_34 : decode cX6_feeOf 34 = .ok (.invokevirtual 230, 3) := by decide +kernel
theorem dX6_feeOf_37 : decode cX6_feeOf 37 = .ok (.imul, 1) := by decide +kernel
theorem dX6_feeOf_38 : decode cX6_feeOf 38 = .ok (.bipush 100, 2) := by decide +kernel
theorem dX6_feeOf_40 : decode cX6_feeOf 40 = .ok (.idiv, 1) := by decide +kernel
theorem dX6_feeOf_41 : decode cX6_feeOf 41 = .ok (.ireturn, 1) := by decide +kernel
theorem dX6_percentageOf_0 : decode cX6_percentageOf 0 = .ok (.aload_n 0, 1) := by decide +kernel
theorem dX6_percentageOf_1 : decode cX6_percentageOf 1 = .ok (.aload_n 1, 1) := by decide +kernel
theorem dX6_percentageOf_2 : decode cX6_percentageOf 2 = .ok (.iload_n 2, 1) := by decide +kernel
theorem dX6_percentageOf_3 : decode cX6_percentageOf 3 = .ok (.iload_n 3, 1) := by decide +kernel
theorem dX6_percentageOf_4 : decode cX6_percentageOf 4 = .ok (.invokevirtual 233, 3) := by decide +kernel
theorem dX6_percentageOf_7 : decode cX6_percentageOf 7 = .ok (.lookupswitch 31 #[(0, 25), (1, 28)], 25) := by decide +kernel
theorem dX6_percentageOf_32 : decode cX6_percentageOf 32 = .ok (.bipush 100, 2) := by decide +kernel
theorem dX6_percentageOf_34 : decode cX6_percentageOf 34 = .ok (.ireturn, 1) := by decide +kernel
theorem dX6_percentageOf_35 : decode cX6_percentageOf 35 = .ok (.bipush 70, 2) := by decide +kernel
theorem dX6_percentageOf_37 : decode cX6_percentageOf 37 = .ok (.ireturn, 1) := by decide +kernel
theorem dX6_percentageOf_38 : decode cX6_percentageOf 38 = .ok (.bipush 40, 2) := by decide +kernel
theorem dX6_percentageOf_40 : decode cX6_percentageOf 40 = .ok (.ireturn, 1) := by decide +kernel
theorem dX6_rankOf_0 : decode cX6_rankOf 0 = .ok (.iconst 0, 1) := by decide +kernel
theorem dX6_rankOf_1 : decode cX6_rankOf 1 = .ok (.istore 4, 2) := by decide +kernel
theorem dX6_rankOf_3 : decode cX6_rankOf 3 = .ok (.iconst 0, 1) := by decide +kernel
theorem dX6_rankOf_4 : decode cX6_rankOf 4 = .ok (.istore 5, 2) := by decide +kernel
theorem dX6_rankOf_6 : decode cX6_rankOf 6 = .ok (.iload 5, 2) := by decide +kernel
theorem dX6_rankOf_8 : decode cX6_rankOf 8 = .ok (.aload_n 0, 1) := by decide +kernel
theorem dX6_rankOf_9 : decode cX6_rankOf 9 = .ok (.getfield 11, 3) := by decide +kernel
theorem dX6_rankOf_12 : decode cX6_rankOf 12 = .ok (.arraylength, 1) := by decide +kernel
theorem dX6_rankOf_13 : decode cX6_rankOf 13 = .ok (.if_icmp .ge 92, 3) := by decide +kernel
theorem dX6_rankOf_16 : decode cX6_rankOf 16 = .ok (.aload_n 0, 1) := by decide +kernel
theorem dX6_rankOf_17 : decode cX6_rankOf 17 = .ok (.getfield 11, 3) := by decide +kernel
theorem dX6_rankOf_20 : decode cX6_rankOf 20 = .ok (.iload 5, 2) := by decide +kernel
theorem dX6_rankOf_22 : decode cX6_rankOf 22 = .ok (.aaload, 1) := by decide +kernel
theorem dX6_rankOf_23 : decode cX6_rankOf 23 = .ok (.astore 6, 2) := by decide +kernel
theorem dX6_rankOf_25 : decode cX6_rankOf 25 = .ok (.aload 6, 2) := by decide +kernel
theorem dX6_rankOf_27 : decode cX6_rankOf 27 = .ok (.ifnull 72, 3) := by decide +kernel
theorem dX6_rankOf_30 : decode cX6_rankOf 30 = .ok (.aload 6, 2) := by decide +kernel
theorem dX6_rankOf_32 : decode cX6_rankOf 32 = .ok (.getfield 132, 3) := by decide +kernel
theorem dX6_rankOf_35 : decode cX6_rankOf 35 = .ok (.aload_n 1, 1) := by decide +kernel
theorem dX6_rankOf_36 : decode cX6_rankOf 36 = .ok (.getfield 132, 3) := by decide +kernel
theorem dX6_rankOf_39 : decode cX6_rankOf 39 = .ok (.if_icmp .ne 60, 3) := by decide +kernel
theorem dX6_rankOf_42 : decode cX6_rankOf 42 = .ok (.aload_n 0, 1) := by decide +kernel
theorem dX6_rankOf_43 : decode cX6_rankOf 43 = .ok (.aload 6, 2) := by decide +kernel
theorem dX6_rankOf_45 : decode cX6_rankOf 45 = .ok (.iload 5, 2) := by decide +kernel
theorem dX6_rankOf_47 : decode cX6_rankOf 47 = .ok (.iload_n 3, 1) := by decide +kernel
theorem dX6_rankOf_48 : decode cX6_rankOf 48 = .ok (.invokevirtual 226, 3) := by decide +kernel
theorem dX6_rankOf_51 : decode cX6_rankOf 51 = .ok (.ifCond .eq 48, 3) := by decide +kernel
theorem dX6_rankOf_54 : decode cX6_rankOf 54 = .ok (.aload 6, 2) := by decide +kernel
theorem dX6_rankOf_56 : decode cX6_rankOf 56 = .ok (.getfield 75, 3) := by decide +kernel
theorem dX6_rankOf_59 : decode cX6_rankOf 59 = .ok (.aload_n 1, 1) := by decide +kernel
theorem dX6_rankOf_60 : decode cX6_rankOf 60 = .ok (.getfield 75, 3) := by decide +kernel
theorem dX6_rankOf_63 : decode cX6_rankOf 63 = .ok (.if_icmp .ne 7, 3) := by decide +kernel
theorem dX6_rankOf_66 : decode cX6_rankOf 66 = .ok (.iconst 1, 1) := by decide +kernel
theorem dX6_rankOf_67 : decode cX6_rankOf 67 = .ok (.goto 4, 3) := by decide +kernel
theorem dX6_rankOf_70 : decode cX6_rankOf 70 = .ok (.iconst 0, 1) := by decide +kernel
theorem dX6_rankOf_71 : decode cX6_rankOf 71 = .ok (.istore 7, 2) := by decide +kernel
theorem dX6_rankOf_73 : decode cX6_rankOf 73 = .ok (.aload 6, 2) := by decide +kernel
theorem dX6_rankOf_75 : decode cX6_rankOf 75 = .ok (.getfield 75, 3) := by decide +kernel
theorem dX6_rankOf_78 : decode cX6_rankOf 78 = .ok (.aload_n 1, 1) := by decide +kernel
theorem dX6_rankOf_79 : decode cX6_rankOf 79 = .ok (.getfield 75, 3) := by decide +kernel
theorem dX6_rankOf_82 : decode cX6_rankOf 82 = .ok (.if_icmp .gt 14, 3) := by decide +kernel
theorem dX6_rankOf_85 : decode cX6_rankOf 85 = .ok (.iload 7, 2) := by decide +kernel
theorem dX6_rankOf_87 : decode cX6_rankOf 87 = .ok (.ifCond .eq 12, 3) := by decide +kernel
theorem dX6_rankOf_90 : decode cX6_rankOf 90 = .ok (.iload 5, 2) := by decide +kernel
theorem dX6_rankOf_92 : decode cX6_rankOf 92 = .ok (.iload_n 2, 1) := by decide +kernel
theorem dX6_rankOf_93 : decode cX6_rankOf 93 = .ok (.if_icmp .ge 6, 3) := by decide +kernel
theorem dX6_rankOf_96 : decode cX6_rankOf 96 = .ok (.iinc 4 1, 3) := by decide +kernel
theorem dX6_rankOf_99 : decode cX6_rankOf 99 = .ok (.iinc 5 1, 3) := by decide +kernel
theorem dX6_rankOf_102 : decode cX6_rankOf 102 = .ok (.goto (-96), 3) := by decide +kernel
theorem dX6_rankOf_105 : decode cX6_rankOf 105 = .ok (.iload 4, 2) := by decide +kernel
theorem dX6_rankOf_107 : decode cX6_rankOf 107 = .ok (.ireturn, 1) := by decide +kernel
theorem dX6_addSubstitute_0 : decode cX6_addSubstitute 0 = .ok (.iload_n 1, 1) := by decide +kernel
theorem dX6_addSubstitute_1 : decode cX6_addSubstitute 1 = .ok (.iconst 1, 1) := by decide +kernel
theorem dX6_addSubstitute_2 : decode cX6_addSubstitute 2 = .ok (.if_icmp .lt 31, 3) := by decide +kernel
theorem dX6_addSubstitute_5 : decode cX6_addSubstitute 5 = .ok (.iload_n 1, 1) := by decide +kernel
theorem dX6_addSubstitute_6 : decode cX6_addSubstitute 6 = .ok (.bipush 31, 2) := by decide +kernel
theorem dX6_addSubstitute_8 : decode cX6_addSubstitute 8 = .ok (.if_icmp .gt 25, 3) := by decide +kernel
theorem dX6_addSubstitute_11 : decode cX6_addSubstitute 11 = .ok (.iload_n 2, 1) := by decide +kernel
theorem dX6_addSubstitute_12 : decode cX6_addSubstitute 12 = .ok (.iconst 1, 1) := by decide +kernel
theorem dX6_addSubstitute_13 : decode cX6_addSubstitute 13 = .ok (.if_icmp .lt 20, 3) := by decide +kernel
theorem dX6_addSubstitute_16 : decode cX6_addSubstitute 16 = .ok (.iload_n 2, 1) := by decide +kernel
theorem dX6_addSubstitute_17 : decode cX6_addSubstitute 17 = .ok (.iconst 5, 1) := by decide +kernel
theorem dX6_addSubstitute_18 : decode cX6_addSubstitute 18 = .ok (.if_icmp .gt 15, 3) := by decide +kernel
theorem dX6_addSubstitute_21 : decode cX6_addSubstitute 21 = .ok (.iload_n 3, 1) := by decide +kernel
theorem dX6_addSubstitute_22 : decode cX6_addSubstitute 22 = .ok (.iconst 1, 1) := by decide +kernel
theorem dX6_addSubstitute_23 : decode cX6_addSubstitute 23 = .ok (.if_icmp .lt 10, 3) := by decide +kernel
theorem dX6_addSubstitute_26 : decode cX6_addSubstitute 26 = .ok (.iload_n 3, 1) := by decide +kernel
theorem dX6_addSubstitute_27 : decode cX6_addSubstitute 27 = .ok (.sipush 1000, 3) := by decide +kernel
theorem dX6_addSubstitute_30 : decode cX6_addSubstitute 30 = .ok (.if_icmp .le 5, 3) := by decide +kernel
theorem dX6_addSubstitute_33 : decode cX6_addSubstitute 33 = .ok (.iconst (-1), 1) := by decide +kernel
theorem dX6_addSubstitute_34 : decode cX6_addSubstitute 34 = .ok (.ireturn, 1) := by decide +kernel
theorem dX6_addSubstitute_35 : decode cX6_addSubstitute 35 = .ok (.aload_n 0, 1) := by decide +kernel
theorem dX6_addSubstitute_36 : decode cX6_addSubstitute 36 = .ok (.getfield 48, 3) := by decide +kernel
theorem dX6_addSubstitute_39 : decode cX6_addSubstitute 39 = .ok (.iload_n 1, 1) := by decide +kernel
theorem dX6_addSubstitute_40 : decode cX6_addSubstitute 40 = .ok (.iload_n 2, 1) := by decide +kernel
theorem dX6_addSubstitute_41 : decode cX6_addSubstitute 41 = .ok (.iload_n 3, 1) := by decide +kernel
theorem dX6_addSubstitute_42 : decode cX6_addSubstitute 42 = .ok (.invokevirtual 236, 3) := by decide +kernel
theorem dX6_addSubstitute_45 : decode cX6_addSubstitute 45 = .ok (.ireturn, 1) := by decide +kernel
theorem dX6_shortage_0 : decode cX6_shortage 0 = .ok (.iload_n 1, 1) := by decide +kernel
theorem dX6_shortage_1 : decode cX6_shortage 1 = .ok (.invokestatic 162, 3) := by decide +kernel
theorem dX6_shortage_4 : decode cX6_shortage 4 = .ok (.ifCond .eq 10, 3) := by decide +kernel
theorem dX6_shortage_7 : decode cX6_shortage 7 = .ok (.iload_n 2, 1) := by decide +kernel
theorem dX6_shortage_8 : decode cX6_shortage 8 = .ok (.invokestatic 85, 3) := by decide +kernel
theorem dX6_shortage_11 : decode cX6_shortage 11 = .ok (.ifCond .ne 5, 3) := by decide +kernel
theorem dX6_shortage_14 : decode cX6_shortage 14 = .ok (.iconst (-1), 1) := by decide +kernel
theorem dX6_shortage_15 : decode cX6_shortage 15 = .ok (.ireturn, 1) := by decide +kernel
theorem dX6_shortage_16 : decode cX6_shortage 16 = .ok (.aload_n 0, 1) := by decide +kernel
theorem dX6_shortage_17 : decode cX6_shortage 17 = .ok (.invokevirtual 239, 3) := by decide +kernel
theorem dX6_shortage_20 : decode cX6_shortage 20 = .ok (.aload_n 0, 1) := by decide +kernel
theorem dX6_shortage_21 : decode cX6_shortage 21 = .ok (.iload_n 2, 1) := by decide +kernel
theorem dX6_shortage_22 : decode cX6_shortage 22 = .ok (.iload_n 1, 1) := by decide +kernel
theorem dX6_shortage_23 : decode cX6_shortage 23 = .ok (.iconst (-1), 1) := by decide +kernel
theorem dX6_shortage_24 : decode cX6_shortage 24 = .ok (.invokevirtual 242, 3) := by decide +kernel
theorem dX6_shortage_27 : decode cX6_shortage 27 = .ok (.ireturn, 1) := by decide +kernel
theorem dX6_cover_0 : decode cX6_cover 0 = .ok (.iload_n 1, 1) := by decide +kernel
theorem dX6_cover_1 : decode cX6_cover 1 = .ok (.invokestatic 162, 3) := by decide +kernel
theorem dX6_cover_4 : decode cX6_cover 4 = .ok (.ifCond .ne 5, 3) := by decide +kernel
theorem dX6_cover_7 : decode cX6_cover 7 = .ok (.iconst (-1), 1) := by decide +kernel
theorem dX6_cover_8 : decode cX6_cover 8 = .ok (.ireturn, 1) := by decide +kernel
theorem dX6_cover_9 : decode cX6_cover 9 = .ok (.aload_n 0, 1) := by decide +kernel
theorem dX6_cover_10 : decode cX6_cover 10 = .ok (.invokevirtual 239, 3) := by decide +kernel
theorem dX6_cover_13 : decode cX6_cover 13 = .ok (.aload_n 0, 1) := by decide +kernel
theorem dX6_cover_14 : decode cX6_cover 14 = .ok (.ldc 245, 2) := by decide +kernel
theorem dX6_cover_16 : decode cX6_cover 16 = .ok (.iload_n 1, 1) := by decide +kernel
theorem dX6_cover_17 : decode cX6_cover 17 = .ok (.iconst (-1), 1) := by decide +kernel
theorem dX6_cover_18 : decode cX6_cover 18 = .ok (.invokevirtual 246, 3) := by decide +kernel
theorem dX6_cover_21 : decode cX6_cover 21 = .ok (.istore_n 2, 1) := by decide +kernel
theorem dX6_cover_22 : decode cX6_cover 22 = .ok (.iload_n 2, 1) := by decide +kernel
theorem dX6_cover_23 : decode cX6_cover 23 = .ok (.iconst (-1), 1) := by decide +kernel
theorem dX6_cover_24 : decode cX6_cover 24 = .ok (.if_icmp .ne 6, 3) := by decide +kernel
theorem dX6_cover_27 : decode cX6_cover 27 = .ok (.bipush (-2), 2) := by decide +kernel
theorem dX6_cover_29 : decode cX6_cover 29 = .ok (.ireturn, 1) := by decide +kernel
theorem dX6_cover_30 : decode cX6_cover 30 = .ok (.iconst 0, 1) := by decide +kernel
theorem dX6_cover_31 : decode cX6_cover 31 = .ok (.istore_n 3, 1) := by decide +kernel
theorem dX6_cover_32 : decode cX6_cover 32 = .ok (.iload_n 3, 1) := by decide +kernel
theorem dX6_cover_33 : decode cX6_cover 33 = .ok (.iconst 5, 1) := by decide +kernel
theorem dX6_cover_34 : decode cX6_cover 34 = .ok (.if_icmp .ge 24, 3) := by decide +kernel
theorem dX6_cover_37 : decode cX6_cover 37 = .ok (.aload_n 0, 1) := by decide +kernel
theorem dX6_cover_38 : decode cX6_cover 38 = .ok (.getfield 35, 3) := by decide +kernel
theorem dX6_cover_41 : decode cX6_cover 41 = .ok (.iload_n 3, 1) := by decide +kernel
theorem dX6_cover_42 : decode cX6_cover 42 = .ok (.aload_n 0, 1) := by decide +kernel
theorem dX6_cover_43 : decode cX6_cover 43 = .ok (.getfield 48, 3) := by decide +kernel
theorem dX6_cover_46 : decode cX6_cover 46 = .ok (.getfield 249, 3) := by decide +kernel
theorem dX6_cover_49 : decode cX6_cover 49 = .ok (.iload_n 3, 1) := by decide +kernel
theorem dX6_cover_50 : decode cX6_cover 50 = .ok (.iaload, 1) := by decide +kernel
theorem dX6_cover_51 : decode cX6_cover 51 = .ok (.iastore, 1) := by decide +kernel
theorem dX6_cover_52 : decode cX6_cover 52 = .ok (.iinc 3 1, 3) := by decide +kernel
theorem dX6_cover_55 : decode cX6_cover 55 = .ok (.goto (-23), 3) := by decide +kernel
theorem dX6_cover_58 : decode cX6_cover 58 = .ok (.iload_n 2, 1) := by decide +kernel
theorem dX6_cover_59 : decode cX6_cover 59 = .ok (.ireturn, 1) := by decide +kernel
theorem dX6_coverOf_0 : decode cX6_coverOf 0 = .ok (.iload_n 1, 1) := by decide +kernel
theorem dX6_coverOf_1 : decode cX6_coverOf 1 = .ok (.invokestatic 85, 3) := by decide +kernel
theorem dX6_coverOf_4 : decode cX6_coverOf 4 = .ok (.ifCond .eq 12, 3) := by decide +kernel
theorem dX6_coverOf_7 : decode cX6_coverOf 7 = .ok (.aload_n 0, 1) := by decide +kernel
theorem dX6_coverOf_8 : decode cX6_coverOf 8 = .ok (.getfield 35, 3) := by decide +kernel
theorem dX6_coverOf_11 : decode cX6_coverOf 11 = .ok (.iload_n 1, 1) := by decide +kernel
theorem dX6_coverOf_12 : decode cX6_coverOf 12 = .ok (.iaload, 1) := by decide +kernel
theorem dX6_coverOf_13 : decode cX6_coverOf 13 = .ok (.goto 4, 3) := by decide +kernel
theorem dX6_coverOf_16 : decode cX6_coverOf 16 = .ok (.iconst (-1), 1) := by decide +kernel
theorem dX6_coverOf_17 : decode cX6_coverOf 17 = .ok (.ireturn, 1) := by decide +kernel
theorem dX6_cheapestHoliday_0 : decode cX6_cheapestHoliday 0 = .ok (.aload_n 0, 1) := by decide +kernel
theorem dX6_cheapestHoliday_1 : decode cX6_cheapestHoliday 1 = .ok (.iload_n 1, 1) := by decide +kernel
theorem dX6_cheapestHoliday_2 : decode cX6_cheapestHoliday 2 = .ok (.invokevirtual 147, 3) := by decide +kernel
theorem dX6_cheapestHoliday_5 : decode cX6_cheapestHoliday 5 = .ok (.astore_n 2, 1) := by decide +kernel
theorem dX6_cheapestHoliday_6 : decode cX6_cheapestHoliday 6 = .ok (.aload_n 2, 1) := by decide +kernel
theorem dX6_cheapestHoliday_7 : decode cX6_cheapestHoliday 7 = .ok (.ifnonnull 5, 3) := by decide +kernel
theorem dX6_cheapestHoliday_10 : decode cX6_cheapestHoliday 10 = .ok (.iconst (-1), 1) := by decide +kernel
theorem dX6_cheapestHoliday_11 : decode cX6_cheapestHoliday 11 = .ok (.ireturn, 1) := by decide +kernel
theorem dX6_cheapestHoliday_12 : decode cX6_cheapestHoliday 12 = .ok (.aload_n 0, 1) := by decide +kernel
theorem dX6_cheapestHoliday_13 : decode cX6_cheapestHoliday 13 = .ok (.invokevirtual 239, 3) := by decide +kernel
theorem dX6_cheapestHoliday_16 : decode cX6_cheapestHoliday 16 = .ok (.bipush (-9), 2) := by decide +kernel
theorem dX6_cheapestHoliday_18 : decode cX6_cheapestHoliday 18 = .ok (.istore_n 3, 1) := by decide +kernel
theorem dX6_cheapestHoliday_19 : decode cX6_cheapestHoliday 19 = .ok (.ldc 245, 2) := by decide +kernel
theorem dX6_cheapestHoliday_21 : decode cX6_cheapestHoliday 21 = .ok (.istore 4, 2) := by decide +kernel
theorem dX6_cheapestHoliday_23 : decode cX6_cheapestHoliday 23 = .ok (.iconst 0, 1) := by decide +kernel
theorem dX6_cheapestHoliday_24 : decode cX6_cheapestHoliday 24 = .ok (.istore 5, 2) := by decide +kernel
theorem dX6_cheapestHoliday_26 : decode cX6_cheapestHoliday 26 = .ok (.iload 5, 2) := by decide +kernel
theorem dX6_cheapestHoliday_28 : decode cX6_cheapestHoliday 28 = .ok (.bipush 52, 2) := by decide +kernel
theorem dX6_cheapestHoliday_30 : decode cX6_cheapestHoliday 30 = .ok (.if_icmp .ge 42, 3) := by decide +kernel
theorem dX6_cheapestHoliday_33 : decode cX6_cheapestHoliday 33 = .ok (.aload_n 2, 1) := by decide +kernel
theorem dX6_cheapestHoliday_34 : decode cX6_cheapestHoliday 34 = .ok (.iload 5, 2) := by decide +kernel
theorem dX6_cheapestHoliday_36 : decode cX6_cheapestHoliday 36 = .ok (.invokevirtual 252, 3) := by decide +kernel
theorem dX6_cheapestHoliday_39 : decode cX6_cheapestHoliday 39 = .ok (.ifCond .ne 27, 3) := by decide +kernel
theorem dX6_cheapestHoliday_42 : decode cX6_cheapestHoliday 42 = .ok (.aload_n 0, 1) := by decide +kernel
theorem dX6_cheapestHoliday_43 : decode cX6_cheapestHoliday 43 = .ok (.iload 4, 2) := by decide +kernel
theorem dX6_cheapestHoliday_45 : decode cX6_cheapestHoliday 45 = .ok (.iload 5, 2) := by decide +kernel
theorem dX6_cheapestHoliday_47 : decode cX6_cheapestHoliday 47 = .ok (.iload_n 1, 1) := by decide +kernel
theorem dX6_cheapestHoliday_48 : decode cX6_cheapestHoliday 48 = .ok (.invokevirtual 246, 3) := by decide +kernel
theorem dX6_cheapestHoliday_51 : decode cX6_cheapestHoliday 51 = .ok (.istore 6, 2) := by decide +kernel
theorem dX6_cheapestHoliday_53 : decode cX6_cheapestHoliday 53 = .ok (.iload 6, 2) := by decide +kernel
theorem dX6_cheapestHoliday_55 : decode cX6_cheapestHoliday 55 = .ok (.iconst (-1), 1) := by decide +kernel
theorem dX6_cheapestHoliday_56 : decode cX6_cheapestHoliday 56 = .ok (.if_icmp .eq 10, 3) := by decide +kernel
theorem dX6_cheapestHoliday_59 : decode cX6_cheapestHoliday 59 = .ok (.iload 5, 2) := by decide +kernel
theorem dX6_cheapestHoliday_61 : decode cX6_cheapestHoliday 61 = .ok (.istore_n 3, 1) := by decide +kernel
theorem dX6_cheapestHoliday_62 : decode cX6_cheapestHoliday 62 = .ok (.iload 6, 2) := by decide +kernel
theorem dX6_cheapestHoliday_64 : decode cX6_cheapestHoliday 64 = .ok (.istore 4, 2) := by decide +kernel
theorem dX6_cheapestHoliday_66 : decode cX6_cheapestHoliday 66 = .ok (.iinc 5 1, 3) := by decide +kernel
theorem dX6_cheapestHoliday_69 : decode cX6_cheapestHoliday 69 = .ok (.goto (-43), 3) := by decide +kernel
theorem dX6_cheapestHoliday_72 : decode cX6_cheapestHoliday 72 = .ok (.iload_n 3, 1) := by decide +kernel
theorem dX6_cheapestHoliday_73 : decode cX6_cheapestHoliday 73 = .ok (.ireturn, 1) := by decide +kernel
theorem dX6_noteNeeds_0 : decode cX6_noteNeeds 0 = .ok (.iconst 0, 1) := by decide +kernel
theorem dX6_noteNeeds_1 : decode cX6_noteNeeds 1 = .ok (.istore_n 1, 1) := by decide +kernel
theorem dX6_noteNeeds_2 : decode cX6_noteNeeds 2 = .ok (.iload_n 1, 1) := by decide +kernel
theorem dX6_noteNeeds_3 : decode cX6_noteNeeds 3 = .ok (.aload_n 0, 1) := by decide +kernel
theorem dX6_noteNeeds_4 : decode cX6_noteNeeds 4 = .ok (.getfield 62, 3) := by decide +kernel
theorem dX6_noteNeeds_7 : decode cX6_noteNeeds 7 = .ok (.arraylength, 1) := by decide +kernel
theorem dX6_noteNeeds_8 : decode cX6_noteNeeds 8 = .ok (.if_icmp .ge 20, 3) := by decide +kernel
theorem dX6_noteNeeds_11 : decode cX6_noteNeeds 11 = .ok (.aload_n 0, 1) := by decide +kernel
theorem dX6_noteNeeds_12 : decode cX6_noteNeeds 12 = .ok (.getfield 62, 3) := by decide +kernel
theorem dX6_noteNeeds_15 : decode cX6_noteNeeds 15 = .ok (.iload_n 1, 1) := by decide +kernel
theorem dX6_noteNeeds_16 : decode cX6_noteNeeds 16 = .ok (.aload_n 0, 1) := by decide +kernel
theorem dX6_noteNeeds_17 : decode cX6_noteNeeds 17 = .ok (.iload_n 1, 1) := by decide +kernel
theorem dX6_noteNeeds_18 : decode cX6_noteNeeds 18 = .ok (.invokevirtual 185, 3) := by decide +kernel
theorem dX6_noteNeeds_21 : decode cX6_noteNeeds 21 = .ok (.iastore, 1) := by decide +kernel
theorem dX6_noteNeeds_22 : decode cX6_noteNeeds 22 = .ok (.iinc 1 1, 3) := by decide +kernel
theorem dX6_noteNeeds_25 : decode cX6_noteNeeds 25 = .ok (.goto (-23), 3) := by decide +kernel
theorem dX6_noteNeeds_28 : decode cX6_noteNeeds 28 = .ok (.return_, 1) := by decide +kernel
theorem dX6_shortageOf_0 : decode cX6_shortageOf 0 = .ok (.iconst 0, 1) := by decide +kernel
theorem dX6_shortageOf_1 : decode cX6_shortageOf 1 = .ok (.istore 4, 2) := by decide +kernel
theorem dX6_shortageOf_3 : decode cX6_shortageOf 3 = .ok (.iload_n 1, 1) := by decide +kernel
theorem dX6_shortageOf_4 : decode cX6_shortageOf 4 = .ok (.iconst 0, 1) := by decide +kernel
theorem dX6_shortageOf_5 : decode cX6_shortageOf 5 = .ok (.invokestatic 174, 3) := by decide +kernel
theorem dX6_shortageOf_8 : decode cX6_shortageOf 8 = .ok (.istore 5, 2) := by decide +kernel
theorem dX6_shortageOf_10 : decode cX6_shortageOf 10 = .ok (.iload 5, 2) := by decide +kernel
theorem dX6_shortageOf_12 : decode cX6_shortageOf 12 = .ok (.istore 6, 2) := by decide +kernel
theorem dX6_shortageOf_14 : decode cX6_shortageOf 14 = .ok (.iload 6, 2) := by decide +kernel
theorem dX6_shortageOf_16 : decode cX6_shortageOf 16 = .ok (.iload 5, 2) := by decide +kernel
theorem dX6_shortageOf_18 : decode cX6_shortageOf 18 = .ok (.bipush 10, 2) := by decide +kernel
theorem dX6_shortageOf_20 : decode cX6_shortageOf 20 = .ok (.iadd, 1) := by decide +kernel
theorem dX6_shortageOf_21 : decode cX6_shortageOf 21 = .ok (.if_icmp .ge 32, 3) := by decide +kernel
theorem dX6_shortageOf_24 : decode cX6_shortageOf 24 = .ok (.iload 4, 2) := by decide +kernel
theorem dX6_shortageOf_26 : decode cX6_shortageOf 26 = .ok (.aload_n 0, 1) := by decide +kernel
theorem dX6_shortageOf_27 : decode cX6_shortageOf 27 = .ok (.getfield 62, 3) := by decide +kernel
theorem dX6_shortageOf_30 : decode cX6_shortageOf 30 = .ok (.iload 6, 2) := by decide +kernel
theorem dX6_shortageOf_32 : decode cX6_shortageOf 32 = .ok (.iaload, 1) := by decide +kernel
theorem dX6_shortageOf_33 : decode cX6_shortageOf 33 = .ok (.aload_n 0, 1) := by decide +kernel
theorem dX6_shortageOf_34 : decode cX6_shortageOf 34 = .ok (.iload 6, 2) := by decide +kernel
theorem dX6_shortageOf_36 : decode cX6_shortageOf 36 = .ok (.iload_n 2, 1) := by decide +kernel
theorem dX6_shortageOf_37 : decode cX6_shortageOf 37 = .ok (.iload_n 3, 1) := by decide +kernel
theorem dX6_shortageOf_38 : decode cX6_shortageOf 38 = .ok (.invokevirtual 255, 3) := by decide +kernel
theorem dX6_shortageOf_41 : decode cX6_shortageOf 41 = .ok (.isub, 1) := by decide +kernel
theorem dX6_shortageOf_42 : decode cX6_shortageOf 42 = .ok (.invokestatic 258, 3) := by decide +kernel
theorem dX6_shortageOf_45 : decode cX6_shortageOf 45 = .ok (.istore 4, 2) := by decide +kernel
theorem dX6_shortageOf_47 : decode cX6_shortageOf 47 = .ok (.iinc 6 1, 3) := by decide +kernel
theorem dX6_shortageOf_50 : decode cX6_shortageOf 50 = .ok (.goto (-36), 3) := by decide +kernel
theorem dX6_shortageOf_53 : decode cX6_shortageOf 53 = .ok (.iload 4, 2) := by decide +kernel
theorem dX6_shortageOf_55 : decode cX6_shortageOf 55 = .ok (.ireturn, 1) := by decide +kernel
theorem dX6_staffLeft_0 : decode cX6_staffLeft 0 = .ok (.iconst 0, 1) := by decide +kernel
theorem dX6_staffLeft_1 : decode cX6_staffLeft 1 = .ok (.istore 4, 2) := by decide +kernel
theorem dX6_staffLeft_3 : decode cX6_staffLeft 3 = .ok (.iconst 0, 1) := by decide +kernel
theorem dX6_staffLeft_4 : decode cX6_staffLeft 4 = .ok (.istore 5, 2) := by decide +kernel
theorem dX6_staffLeft_6 : decode cX6_staffLeft 6 = .ok (.iload 5, 2) := by decide +kernel
theorem dX6_staffLeft_8 : decode cX6_staffLeft 8 = .ok (.aload_n 0, 1) := by decide +kernel
theorem dX6_staffLeft_9 : decode cX6_staffLeft 9 = .ok (.getfield 17, 3) := by decide +kernel
theorem dX6_staffLeft_12 : decode cX6_staffLeft 12 = .ok (.arraylength, 1) := by decide +kernel
theorem dX6_staffLeft_13 : decode cX6_staffLeft 13 = .ok (.if_icmp .ge 53, 3) := by decide +kernel
theorem dX6_staffLeft_16 : decode cX6_staffLeft 16 = .ok (.aload_n 0, 1) := by decide +kernel
theorem dX6_staffLeft_17 : decode cX6_staffLeft 17 = .ok (.getfield 17, 3) := by decide +kernel
theorem dX6_staffLeft_20 : decode cX6_staffLeft 20 = .ok (.iload 5, 2) := by decide +kernel
theorem dX6_staffLeft_22 : decode cX6_staffLeft 22 = .ok (.aaload, 1) := by decide +kernel
theorem dX6_staffLeft_23 : decode cX6_staffLeft 23 = .ok (.astore 6, 2) := by decide +kernel
theorem dX6_staffLeft_25 : decode cX6_staffLeft 25 = .ok (.aload 6, 2) := by decide +kernel
theorem dX6_staffLeft_27 : decode cX6_staffLeft 27 = .ok (.ifnull 33, 3) := by decide +kernel
theorem dX6_staffLeft_30 : decode cX6_staffLeft 30 = .ok (.iload 5, 2) := by decide +kernel
theorem dX6_staffLeft_32 : decode cX6_staffLeft 32 = .ok (.iload_n 3, 1) := by decide +kernel
theorem dX6_staffLeft_33 : decode cX6_staffLeft 33 = .ok (.if_icmp .eq 27, 3) := by decide +kernel
theorem dX6_staffLeft_36 : decode cX6_staffLeft 36 = .ok (.aload 6, 2) := by decide +kernel
theorem dX6_staffLeft_38 : decode cX6_staffLeft 38 = .ok (.iload_n 2, 1) := by decide +kernel
theorem dX6_staffLeft_39 : decode cX6_staffLeft 39 = .ok (.invokevirtual 252, 3) := by decide +kernel
theorem dX6_staffLeft_42 : decode cX6_staffLeft 42 = .ok (.ifCond .ne 18, 3) := by decide +kernel
theorem dX6_staffLeft_45 : decode cX6_staffLeft 45 = .ok (.aload 6, 2) := by decide +kernel
theorem dX6_staffLeft_47 : decode cX6_staffLeft 47 = .ok (.getfield 153, 3) := by decide +kernel
theorem dX6_staffLeft_50 : decode cX6_staffLeft 50 = .ok (.iload_n 1, 1) := by decide +kernel
theorem dX6_staffLeft_51 : decode cX6_staffLeft 51 = .ok (.invokestatic 205, 3) := by decide +kernel
theorem dX6_staffLeft_54 : decode cX6_staffLeft 54 = .ok (.ifCond .eq 6, 3) := by decide +kernel
theorem dX6_staffLeft_57 : decode cX6_staffLeft 57 = .ok (.iinc 4 1, 3) := by decide +kernel
theorem dX6_staffLeft_60 : decode cX6_staffLeft 60 = .ok (.iinc 5 1, 3) := by decide +kernel
theorem dX6_staffLeft_63 : decode cX6_staffLeft 63 = .ok (.goto (-57), 3) := by decide +kernel
theorem dX6_staffLeft_66 : decode cX6_staffLeft 66 = .ok (.iload 4, 2) := by decide +kernel
theorem dX6_staffLeft_68 : decode cX6_staffLeft 68 = .ok (.ireturn, 1) := by decide +kernel
theorem dX6_leastCostBelow_0 : decode cX6_leastCostBelow 0 = .ok (.iconst 0, 1) := by decide +kernel
theorem dX6_leastCostBelow_1 : decode cX6_leastCostBelow 1 = .ok (.istore 4, 2) := by decide +kernel
theorem dX6_leastCostBelow_3 : decode cX6_leastCostBelow 3 = .ok (.iload 4, 2) := by decide +kernel
theorem dX6_leastCostBelow_5 : decode cX6_leastCostBelow 5 = .ok (.iconst 5, 1) := by decide +kernel
theorem dX6_leastCostBelow_6 : decode cX6_leastCostBelow 6 = .ok (.if_icmp .ge 27, 3) := by decide +kernel
theorem dX6_leastCostBelow_9 : decode cX6_leastCostBelow 9 = .ok (.aload_n 0, 1) := by decide +kernel
theorem dX6_leastCostBelow_10 : decode cX6_leastCostBelow 10 = .ok (.getfield 48, 3) := by decide +kernel
theorem dX6_leastCostBelow_13 : decode cX6_leastCostBelow 13 = .ok (.getfield 263, 3) := by decide +kernel
theorem dX6_leastCostBelow_16 : decode cX6_leastCostBelow 16 = .ok (.iload 4, 2) := by decide +kernel
theorem dX6_leastCostBelow_18 : decode cX6_leastCostBelow 18 = .ok (.aload_n 0, 1) := by decide +kernel
theorem dX6_leastCostBelow_19 : decode cX6_leastCostBelow 19 = .ok (.iload 4, 2) := by decide +kernel
theorem dX6_leastCostBelow_21 : decode cX6_leastCostBelow 21 = .ok (.iload_n 2, 1) := by decide +kernel
theorem dX6_leastCostBelow_22 : decode cX6_leastCostBelow 22 = .ok (.iload_n 3, 1) := by decide +kernel
theorem dX6_leastCostBelow_23 : decode cX6_leastCostBelow 23 = .ok (.invokevirtual 242, 3) := by decide +kernel
theorem dX6_leastCostBelow_26 : decode cX6_leastCostBelow 26 = .ok (.iastore, 1) := by decide +kernel
theorem dX6_leastCostBelow_27 : decode cX6_leastCostBelow 27 = .ok (.iinc 4 1, 3) := by decide +kernel
theorem dX6_leastCostBelow_30 : decode cX6_leastCostBelow 30 = .ok (.goto (-27), 3) := by decide +kernel
theorem dX6_leastCostBelow_33 : decode cX6_leastCostBelow 33 = .ok (.aload_n 0, 1) := by decide +kernel
theorem dX6_leastCostBelow_34 : decode cX6_leastCostBelow 34 = .ok (.getfield 48, 3) := by decide +kernel
theorem dX6_leastCostBelow_37 : decode cX6_leastCostBelow 37 = .ok (.iload_n 1, 1) := by decide +kernel
theorem dX6_leastCostBelow_38 : decode cX6_leastCostBelow 38 = .ok (.invokevirtual 266, 3) := by decide +kernel
theorem dX6_leastCostBelow_41 : decode cX6_leastCostBelow 41 = .ok (.ireturn, 1) := by decide +kernel
theorem dX6_type_0 : decode cX6_type 0 = .ok (.iload_n 1, 1) := by decide +kernel
theorem dX6_type_1 : decode cX6_type 1 = .ok (.bipush 32, 2) := by decide +kernel
theorem dX6_type_3 : decode cX6_type 3 = .ok (.if_icmp .lt 9, 3) := by decide +kernel
theorem dX6_type_6 : decode cX6_type 6 = .ok (.iload_n 1, 1) := by decide +kernel
theorem dX6_type_7 : decode cX6_type 7 = .ok (.bipush 126, 2) := by decide +kernel
theorem dX6_type_9 : decode cX6_type 9 = .ok (.if_icmp .le 5, 3) := by decide +kernel
theorem dX6_type_12 : decode cX6_type 12 = .ok (.iconst (-1), 1) := by decide +kernel
theorem dX6_type_13 : decode cX6_type 13 = .ok (.ireturn, 1) := by decide +kernel
theorem dX6_type_14 : decode cX6_type 14 = .ok (.aload_n 0, 1) := by decide +kernel
theorem dX6_type_15 : decode cX6_type 15 = .ok (.getfield 41, 3) := by decide +kernel
theorem dX6_type_18 : decode cX6_type 18 = .ok (.iload_n 1, 1) := by decide +kernel
theorem dX6_type_19 : decode cX6_type 19 = .ok (.i2c, 1) := by decide +kernel
theorem dX6_type_20 : decode cX6_type 20 = .ok (.invokevirtual 268, 3) := by decide +kernel
theorem dX6_type_23 : decode cX6_type 23 = .ok (.ifCond .eq 13, 3) := by decide +kernel
theorem dX6_type_26 : decode cX6_type 26 = .ok (.aload_n 0, 1) := by decide +kernel
theorem dX6_type_27 : decode cX6_type 27 = .ok (.getfield 41, 3) := by decide +kernel
theorem dX6_type_30 : decode cX6_type 30 = .ok (.getfield 272, 3) := by decide +kernel
theorem dX6_type_33 : decode cX6_type 33 = .ok (.goto 5, 3) := by decide +kernel
theorem dX6_type_36 : decode cX6_type 36 = .ok (.bipush (-3), 2) := by decide +kernel
theorem dX6_type_38 : decode cX6_type 38 = .ok (.ireturn, 1) := by decide +kernel
theorem dX6_clearText_0 : decode cX6_clearText 0 = .ok (.aload_n 0, 1) := by decide +kernel
theorem dX6_clearText_1 : decode cX6_clearText 1 = .ok (.getfield 41, 3) := by decide +kernel
theorem dX6_clearText_4 : decode cX6_clearText 4 = .ok (.getfield 272, 3) := by decide +kernel
theorem dX6_clearText_7 : decode cX6_clearText 7 = .ok (.istore_n 1, 1) := by decide +kernel
theorem dX6_clearText_8 : decode cX6_clearText 8 = .ok (.aload_n 0, 1) := by decide +kernel
theorem dX6_clearText_9 : decode cX6_clearText 9 = .ok (.getfield 41, 3) := by decide +kernel
theorem dX6_clearText_12 : decode cX6_clearText 12 = .ok (.iconst 0, 1) := by decide +kernel
theorem dX6_clearText_13 : decode cX6_clearText 13 = .ok (.putfield 272, 3) := by decide +kernel
theorem dX6_clearText_16 : decode cX6_clearText 16 = .ok (.iload_n 1, 1) := by decide +kernel
theorem dX6_clearText_17 : decode cX6_clearText 17 = .ok (.ireturn, 1) := by decide +kernel
theorem dX6_loadBookings_0 : decode cX6_loadBookings 0 = .ok (.aload_n 0, 1) := by decide +kernel
theorem dX6_loadBookings_1 : decode cX6_loadBookings 1 = .ok (.iload_n 1, 1) := by decide +kernel
theorem dX6_loadBookings_2 : decode cX6_loadBookings 2 = .ok (.invokevirtual 68, 3) := by decide +kernel
theorem dX6_loadBookings_5 : decode cX6_loadBookings 5 = .ok (.astore_n 2, 1) := by decide +kernel
theorem dX6_loadBookings_6 : decode cX6_loadBookings 6 = .ok (.aload_n 2, 1) := by decide +kernel
theorem dX6_loadBookings_7 : decode cX6_loadBookings 7 = .ok (.ifnonnull 5, 3) := by decide +kernel
theorem dX6_loadBookings_10 : decode cX6_loadBookings 10 = .ok (.iconst (-1), 1) := by decide +kernel
theorem dX6_loadBookings_11 : decode cX6_loadBookings 11 = .ok (.ireturn, 1) := by decide +kernel
theorem dX6_loadBookings_12 : decode cX6_loadBookings 12 = .ok (.aload_n 0, 1) := by decide +kernel
theorem dX6_loadBookings_13 : decode cX6_loadBookings 13 = .ok (.getfield 41, 3) := by decide +kernel
theorem dX6_loadBookings_16 : decode cX6_loadBookings 16 = .ok (.invokevirtual 275, 3) := by decide +kernel
theorem dX6_loadBookings_19 : decode cX6_loadBookings 19 = .ok (.istore_n 3, 1) := by decide +kernel
theorem dX6_loadBookings_20 : decode cX6_loadBookings 20 = .ok (.iload_n 3, 1) := by decide +kernel
theorem dX6_loadBookings_21 : decode cX6_loadBookings 21 = .ok (.iconst (-1), 1) := by decide +kernel
theorem dX6_loadBookings_22 : decode cX6_loadBookings 22 = .ok (.if_icmp .eq 8, 3) := by decide +kernel
theorem dX6_loadBookings_25 : decode cX6_loadBookings 25 = .ok (.bipush (-10), 2) := by decide +kernel
theorem dX6_loadBookings_27 : decode cX6_loadBookings 27 = .ok (.iload_n 3, 1) := by decide +kernel
theorem dX6_loadBookings_28 : decode cX6_loadBookings 28 = .ok (.isub, 1) := by decide +kernel
theorem dX6_loadBookings_29 : decode cX6_loadBookings 29 = .ok (.ireturn, 1) := by decide +kernel
theorem dX6_loadBookings_30 : decode cX6_loadBookings 30 = .ok (.aload_n 0, 1) := by decide +kernel
theorem dX6_loadBookings_31 : decode cX6_loadBookings 31 = .ok (.aload_n 2, 1) := by decide +kernel
theorem dX6_loadBookings_32 : decode cX6_loadBookings 32 = .ok (.aload_n 0, 1) := by decide +kernel
theorem dX6_loadBookings_33 : decode cX6_loadBookings 33 = .ok (.getfield 41, 3) := by decide +kernel
theorem dX6_loadBookings_36 : decode cX6_loadBookings 36 = .ok (.getfield 278, 3) := by decide +kernel
theorem dX6_loadBookings_39 : decode cX6_loadBookings 39 = .ok (.invokevirtual 101, 3) := by decide +kernel
theorem dX6_loadBookings_42 : decode cX6_loadBookings 42 = .ok (.ireturn, 1) := by decide +kernel
theorem dX6_digest_0 : decode cX6_digest 0 = .ok (.ldc2_w 279, 3) := by decide +kernel
theorem dX6_digest_3 : decode cX6_digest 3 = .ok (.lstore_n 1, 1) := by decide +kernel
theorem dX6_digest_4 : decode cX6_digest 4 = .ok (.lload_n 1, 1) := by decide +kernel
theorem dX6_digest_5 : decode cX6_digest 5 = .ok (.aload_n 0, 1) := by decide +kernel
theorem dX6_digest_6 : decode cX6_digest 6 = .ok (.getfield 32, 3) := by decide +kernel
theorem dX6_digest_9 : decode cX6_digest 9 = .ok (.invokestatic 281, 3) := by decide +kernel
theorem dX6_digest_12 : decode cX6_digest 12 = .ok (.lstore_n 1, 1) := by decide +kernel
theorem dX6_digest_13 : decode cX6_digest 13 = .ok (.aload_n 0, 1) := by decide +kernel
theorem dX6_digest_14 : decode cX6_digest 14 = .ok (.lload_n 1, 1) := by decide +kernel
theorem dX6_digest_15 : decode cX6_digest 15 = .ok (.invokevirtual 285, 3) := by decide +kernel
theorem dX6_digest_18 : decode cX6_digest 18 = .ok (.lstore_n 1, 1) := by decide +kernel
theorem dX6_digest_19 : decode cX6_digest 19 = .ok (.lload_n 1, 1) := by decide +kernel
theorem dX6_digest_20 : decode cX6_digest 20 = .ok (.aload_n 0, 1) := by decide +kernel
theorem dX6_digest_21 : decode cX6_digest 21 = .ok (.invokevirtual 151, 3) := by decide +kernel
theorem dX6_digest_24 : decode cX6_digest 24 = .ok (.invokestatic 281, 3) := by decide +kernel
theorem dX6_digest_27 : decode cX6_digest 27 = .ok (.lstore_n 1, 1) := by decide +kernel
theorem dX6_digest_28 : decode cX6_digest 28 = .ok (.aload_n 0, 1) := by decide +kernel
theorem dX6_digest_29 : decode cX6_digest 29 = .ok (.lload_n 1, 1) := by decide +kernel
theorem dX6_digest_30 : decode cX6_digest 30 = .ok (.invokevirtual 289, 3) := by decide +kernel
theorem dX6_digest_33 : decode cX6_digest 33 = .ok (.lstore_n 1, 1) := by decide +kernel
theorem dX6_digest_34 : decode cX6_digest 34 = .ok (.lload_n 1, 1) := by decide +kernel
theorem dX6_digest_35 : decode cX6_digest 35 = .ok (.aload_n 0, 1) := by decide +kernel
theorem dX6_digest_36 : decode cX6_digest 36 = .ok (.invokevirtual 292, 3) := by decide +kernel
theorem dX6_digest_39 : decode cX6_digest 39 = .ok (.invokestatic 281, 3) := by decide +kernel
theorem dX6_digest_42 : decode cX6_digest 42 = .ok (.lstore_n 1, 1) := by decide +kernel
theorem dX6_digest_43 : decode cX6_digest 43 = .ok (.lload_n 1, 1) := by decide +kernel
theorem dX6_digest_44 : decode cX6_digest 44 = .ok (.aload_n 0, 1) := by decide +kernel
theorem dX6_digest_45 : decode cX6_digest 45 = .ok (.invokevirtual 295, 3) := by decide +kernel
theorem dX6_digest_48 : decode cX6_digest 48 = .ok (.invokestatic 281, 3) := by decide +kernel
theorem dX6_digest_51 : decode cX6_digest 51 = .ok (.lstore_n 1, 1) := by decide +kernel
theorem dX6_digest_52 : decode cX6_digest 52 = .ok (.iconst 0, 1) := by decide +kernel
theorem dX6_digest_53 : decode cX6_digest 53 = .ok (.istore_n 3, 1) := by decide +kernel
theorem dX6_digest_54 : decode cX6_digest 54 = .ok (.iload_n 3, 1) := by decide +kernel
theorem dX6_digest_55 : decode cX6_digest 55 = .ok (.iconst 5, 1) := by decide +kernel
theorem dX6_digest_56 : decode cX6_digest 56 = .ok (.if_icmp .ge 19, 3) := by decide +kernel
theorem dX6_digest_59 : decode cX6_digest 59 = .ok (.lload_n 1, 1) := by decide +kernel
theorem dX6_digest_60 : decode cX6_digest 60 = .ok (.aload_n 0, 1) := by decide +kernel
theorem dX6_digest_61 : decode cX6_digest 61 = .ok (.iload_n 3, 1) := by decide +kernel
theorem dX6_digest_62 : decode cX6_digest 62 = .ok (.invokevirtual 298, 3) := by decide +kernel
theorem dX6_digest_65 : decode cX6_digest 65 = .ok (.invokestatic 281, 3) := by decide +kernel
theorem dX6_digest_68 : decode cX6_digest 68 = .ok (.lstore_n 1, 1) := by decide +kernel
theorem dX6_digest_69 : decode cX6_digest 69 = .ok (.iinc 3 1, 3) := by decide +kernel
theorem dX6_digest_72 : decode cX6_digest 72 = .ok (.goto (-18), 3) := by decide +kernel
theorem dX6_digest_75 : decode cX6_digest 75 = .ok (.iconst 0, 1) := by decide +kernel
theorem dX6_digest_76 : decode cX6_digest 76 = .ok (.istore_n 3, 1) := by decide +kernel
theorem dX6_digest_77 : decode cX6_digest 77 = .ok (.iload_n 3, 1) := by decide +kernel
theorem dX6_digest_78 : decode cX6_digest 78 = .ok (.iconst 5, 1) := by decide +kernel
theorem dX6_digest_79 : decode cX6_digest 79 = .ok (.if_icmp .ge 20, 3) := by decide +kernel
theorem dX6_digest_82 : decode cX6_digest 82 = .ok (.lload_n 1, 1) := by decide +kernel
theorem dX6_digest_83 : decode cX6_digest 83 = .ok (.aload_n 0, 1) := by decide +kernel
theorem dX6_digest_84 : decode cX6_digest 84 = .ok (.iconst 0, 1) := by decide +kernel
theorem dX6_digest_85 : decode cX6_digest 85 = .ok (.iload_n 3, 1) := by decide +kernel
theorem dX6_digest_86 : decode cX6_digest 86 = .ok (.invokevirtual 301, 3) := by decide +kernel
theorem dX6_digest_89 : decode cX6_digest 89 = .ok (.invokestatic 281, 3) := by decide +kernel
theorem dX6_digest_92 : decode cX6_digest 92 = .ok (.lstore_n 1, 1) := by decide +kernel
theorem dX6_digest_93 : decode cX6_digest 93 = .ok (.iinc 3 1, 3) := by decide +kernel
theorem dX6_digest_96 : decode cX6_digest 96 = .ok (.goto (-19), 3) := by decide +kernel
theorem dX6_digest_99 : decode cX6_digest 99 = .ok (.lload_n 1, 1) := by decide +kernel
theorem dX6_digest_100 : decode cX6_digest 100 = .ok (.aload_n 0, 1) := by decide +kernel
theorem dX6_digest_101 : decode cX6_digest 101 = .ok (.getfield 41, 3) := by decide +kernel
theorem dX6_digest_104 : decode cX6_digest 104 = .ok (.getfield 272, 3) := by decide +kernel
theorem dX6_digest_107 : decode cX6_digest 107 = .ok (.invokestatic 281, 3) := by decide +kernel
theorem dX6_digest_110 : decode cX6_digest 110 = .ok (.lreturn, 1) := by decide +kernel
theorem dX6_mixChildren_0 : decode cX6_mixChildren 0 = .ok (.lload_n 1, 1) := by decide +kernel
theorem dX6_mixChildren_1 : decode cX6_mixChildren 1 = .ok (.aload_n 0, 1) := by decide +kernel
theorem dX6_mixChildren_2 : decode cX6_mixChildren 2 = .ok (.invokevirtual 72, 3) := by decide +kernel
theorem dX6_mixChildren_5 : decode cX6_mixChildren 5 = .ok (.invokestatic 281, 3) := by decide +kernel
theorem dX6_mixChildren_8 : decode cX6_mixChildren 8 = .ok (.lstore_n 3, 1) := by decide +kernel
theorem dX6_mixChildren_9 : decode cX6_mixChildren 9 = .ok (.iconst 0, 1) := by decide +kernel
theorem dX6_mixChildren_10 : decode cX6_mixChildren 10 = .ok (.istore 5, 2) := by decide +kernel
theorem dX6_mixChildren_12 : decode cX6_mixChildren 12 = .ok (.iload 5, 2) := by decide +kernel
theorem dX6_mixChildren_14 : decode cX6_mixChildren 14 = .ok (.aload_n 0, 1) := by decide +kernel
theorem dX6_mixChildren_15 : decode cX6_mixChildren 15 = .ok (.getfield 11, 3) := by decide +kernel
theorem dX6_mixChildren_18 : decode cX6_mixChildren 18 = .ok (.arraylength, 1) := by decide +kernel
theorem dX6_mixChildren_19 : decode cX6_mixChildren 19 = .ok (.if_icmp .ge 99, 3) := by decide +kernel
theorem dX6_mixChildren_22 : decode cX6_mixChildren 22 = .ok (.aload_n 0, 1) := by decide +kernel
theorem dX6_mixChildren_23 : decode cX6_mixChildren 23 = .ok (.getfield 11, 3) := by decide +kernel
theorem dX6_mixChildren_26 : decode cX6_mixChildren 26 = .ok (.iload 5, 2) := by decide +kernel
theorem dX6_mixChildren_28 : decode cX6_mixChildren 28 = .ok (.aaload, 1) := by decide +kernel
theorem dX6_mixChildren_29 : decode cX6_mixChildren 29 = .ok (.astore 6, 2) := by decide +kernel
theorem dX6_mixChildren_31 : decode cX6_mixChildren 31 = .ok (.aload 6, 2) := by decide +kernel
theorem dX6_mixChildren_33 : decode cX6_mixChildren 33 = .ok (.ifnull 79, 3) := by decide +kernel
theorem dX6_mixChildren_36 : decode cX6_mixChildren 36 = .ok (.lload_n 3, 1) := by decide +kernel
theorem dX6_mixChildren_37 : decode cX6_mixChildren 37 = .ok (.iload 5, 2) := by decide +kernel
theorem dX6_mixChildren_39 : decode cX6_mixChildren 39 = .ok (.invokestatic 281, 3) := by decide +kernel
theorem dX6_mixChildren_42 : decode cX6_mixChildren 42 = .ok (.lstore_n 3, 1) := by decide +kernel
theorem dX6_mixChildren_43 : decode cX6_mixChildren 43 = .ok (.lload_n 3, 1) := by decide +kernel
theorem dX6_mixChildren_44 : decode cX6_mixChildren 44 = .ok (.aload 6, 2) := by decide +kernel
theorem dX6_mixChildren_46 : decode cX6_mixChildren 46 = .ok (.getfield 75, 3) := by decide +kernel
theorem dX6_mixChildren_49 : decode cX6_mixChildren 49 = .ok (.invokestatic 281, 3) := by decide +kernel
theorem dX6_mixChildren_52 : decode cX6_mixChildren 52 = .ok (.lstore_n 3, 1) := by decide +kernel
theorem dX6_mixChildren_53 : decode cX6_mixChildren 53 = .ok (.lload_n 3, 1) := by decide +kernel
theorem dX6_mixChildren_54 : decode cX6_mixChildren 54 = .ok (.aload 6, 2) := by decide +kernel
theorem dX6_mixChildren_56 : decode cX6_mixChildren 56 = .ok (.getfield 78, 3) := by decide +kernel
theorem dX6_mixChildren_59 : decode cX6_mixChildren 59 = .ok (.ifCond .eq 7, 3) := by decide +kernel
theorem dX6_mixChildren_62 : decode cX6_mixChildren 62 = .ok (.iconst 1, 1) := by decide +kernel
theorem dX6_mixChildren_63 : decode cX6_mixChildren 63 = .ok (.goto 4, 3) := by decide +kernel
theorem dX6_mixChildren_66 : decode cX6_mixChildren 66 = .ok (.iconst 0, 1) := by decide +kernel
theorem dX6_mixChildren_67 : decode cX6_mixChildren 67 = .ok (.invokestatic 281, 3) := by decide +kernel
theorem dX6_mixChildren_70 : decode cX6_mixChildren 70 = .ok (.lstore_n 3, 1) := by decide +kernel
theorem dX6_mixChildren_71 : decode cX6_mixChildren 71 = .ok (.lload_n 3, 1) := by decide +kernel
theorem dX6_mixChildren_72 : decode cX6_mixChildren 72 = .ok (.aload 6, 2) := by decide +kernel
theorem dX6_mixChildren_74 : decode cX6_mixChildren 74 = .ok (.invokevirtual 82, 3) := by decide +kernel
theorem dX6_mixChildren_77 : decode cX6_mixChildren 77 = .ok (.invokestatic 281, 3) := by decide +kernel
theorem dX6_mixChildren_80 : decode cX6_mixChildren 80 = .ok (.lstore_n 3, 1) := by decide +kernel
theorem dX6_mixChildren_81 : decode cX6_mixChildren 81 = .ok (.lload_n 3, 1) := by decide +kernel
theorem dX6_mixChildren_82 : decode cX6_mixChildren 82 = .ok (.aload 6, 2) := by decide +kernel
theorem dX6_mixChildren_84 : decode cX6_mixChildren 84 = .ok (.getfield 78, 3) := by decide +kernel
theorem dX6_mixChildren_87 : decode cX6_mixChildren 87 = .ok (.ifCond .eq 15, 3) := by decide +kernel
theorem dX6_mixChildren_90 : decode cX6_mixChildren 90 = .ok (.aload_n 0, 1) := by decide +kernel
theorem dX6_mixChildren_91 : decode cX6_mixChildren 91 = .ok (.aload 6, 2) := by decide +kernel
theorem dX6_mixChildren_93 : decode cX6_mixChildren 93 = .ok (.iload 5, 2) := by decide +kernel
theorem dX6_mixChildren_95 : decode cX6_mixChildren 95 = .ok (.iconst (-1), 1) := by decide +kernel
theorem dX6_mixChildren_96 : decode cX6_mixChildren 96 = .ok (.invokevirtual 219, 3) := by decide +kernel
theorem dX6_mixChildren_99 : decode cX6_mixChildren 99 = .ok (.goto 9, 3) := by decide +kernel
theorem dX6_mixChildren_102 : decode cX6_mixChildren 102 = .ok (.aload_n 0, 1) := by decide +kernel
theorem dX6_mixChildren_103 : decode cX6_mixChildren 103 = .ok (.aload 6, 2) := by decide +kernel
theorem dX6_mixChildren_105 : decode cX6_mixChildren 105 = .ok (.invokevirtual 117, 3) := by decide +kernel
theorem dX6_mixChildren_108 : decode cX6_mixChildren 108 = .ok (.invokestatic 281, 3) := by decide +kernel
theorem dX6_mixChildren_111 : decode cX6_mixChildren 111 = .ok (.lstore_n 3, 1) := by decide +kernel
theorem dX6_mixChildren_112 : decode cX6_mixChildren 112 = .ok (.iinc 5 1, 3) := by decide +kernel
theorem dX6_mixChildren_115 : decode cX6_mixChildren 115 = .ok (.goto (-103), 3) := by decide +kernel
theorem dX6_mixChildren_118 : decode cX6_mixChildren 118 = .ok (.lload_n 3, 1) := by decide +kernel
theorem dX6_mixChildren_119 : decode cX6_mixChildren 119 = .ok (.lreturn, 1) := by decide +kernel
theorem dX6_mixHours_0 : decode cX6_mixHours 0 = .ok (.lload_n 1, 1) := by decide +kernel
theorem dX6_mixHours_1 : decode cX6_mixHours 1 = .ok (.lstore_n 3, 1) := by decide +kernel
theorem dX6_mixHours_2 : decode cX6_mixHours 2 = .ok (.iconst 0, 1) := by decide +kernel
theorem dX6_mixHours_3 : decode cX6_mixHours 3 = .ok (.istore 5, 2) := by decide +kernel
theorem dX6_mixHours_5 : decode cX6_mixHours 5 = .ok (.iload 5, 2) := by decide +kernel
theorem dX6_mixHours_7 : decode cX6_mixHours 7 = .ok (.bipush 50, 2) := by decide +kernel
theorem dX6_mixHours_9 : decode cX6_mixHours 9 = .ok (.if_icmp .ge 47, 3) := by decide +kernel
theorem dX6_mixHours_12 : decode cX6_mixHours 12 = .ok (.aload_n 0, 1) := by decide +kernel
theorem dX6_mixHours_13 : decode cX6_mixHours 13 = .ok (.iload 5, 2) := by decide +kernel
theorem dX6_mixHours_15 : decode cX6_mixHours 15 = .ok (.invokevirtual 185, 3) := by decide +kernel
theorem dX6_mixHours_18 : decode cX6_mixHours 18 = .ok (.istore 6, 2) := by decide +kernel
theorem dX6_mixHours_20 : decode cX6_mixHours 20 = .ok (.lload_n 3, 1) := by decide +kernel
theorem dX6_mixHours_21 : decode cX6_mixHours 21 = .ok (.aload_n 0, 1) := by decide +kernel
theorem dX6_mixHours_22 : decode cX6_mixHours 22 = .ok (.getfield 55, 3) := by decide +kernel
theorem dX6_mixHours_25 : decode cX6_mixHours 25 = .ok (.invokevirtual 182, 3) := by decide +kernel
theorem dX6_mixHours_28 : decode cX6_mixHours 28 = .ok (.invokestatic 281, 3) := by decide +kernel
theorem dX6_mixHours_31 : decode cX6_mixHours 31 = .ok (.lstore_n 3, 1) := by decide +kernel
theorem dX6_mixHours_32 : decode cX6_mixHours 32 = .ok (.lload_n 3, 1) := by decide +kernel
theorem dX6_mixHours_33 : decode cX6_mixHours 33 = .ok (.iload 6, 2) := by decide +kernel
theorem dX6_mixHours_35 : decode cX6_mixHours 35 = .ok (.invokestatic 281, 3) := by decide +kernel
theorem dX6_mixHours_38 : decode cX6_mixHours 38 = .ok (.lstore_n 3, 1) := by decide +kernel
theorem dX6_mixHours_39 : decode cX6_mixHours 39 = .ok (.lload_n 3, 1) := by decide +kernel
theorem dX6_mixHours_40 : decode cX6_mixHours 40 = .ok (.aload_n 0, 1) := by decide +kernel
theorem dX6_mixHours_41 : decode cX6_mixHours 41 = .ok (.iload 5, 2) := by decide +kernel
theorem dX6_mixHours_43 : decode cX6_mixHours 43 = .ok (.invokevirtual 188, 3) := by decide +kernel
theorem dX6_mixHours_46 : decode cX6_mixHours 46 = .ok (.invokestatic 281, 3) := by decide +kernel
theorem dX6_mixHours_49 : decode cX6_mixHours 49 = .ok (.lstore_n 3, 1) := by decide +kernel
theorem dX6_mixHours_50 : decode cX6_mixHours 50 = .ok (.iinc 5 1, 3) := by decide +kernel
theorem dX6_mixHours_53 : decode cX6_mixHours 53 = .ok (.goto (-48), 3) := by decide +kernel
theorem dX6_mixHours_56 : decode cX6_mixHours 56 = .ok (.lload_n 3, 1) := by decide +kernel
theorem dX6_mixHours_57 : decode cX6_mixHours 57 = .ok (.lreturn, 1) := by decide +kernel
theorem dX6_mix_0 : decode cX6_mix 0 = .ok (.ldc2_w 304, 3) := by decide +kernel
theorem dX6_mix_3 : decode cX6_mix 3 = .ok (.lload_n 0, 1) := by decide +kernel
theorem dX6_mix_4 : decode cX6_mix 4 = .ok (.lmul, 1) := by decide +kernel
theorem dX6_mix_5 : decode cX6_mix 5 = .ok (.iload_n 2, 1) := by decide +kernel
theorem dX6_mix_6 : decode cX6_mix 6 = .ok (.i2l, 1) := by decide +kernel
theorem dX6_mix_7 : decode cX6_mix 7 = .ok (.ladd, 1) := by decide +kernel
theorem dX6_mix_8 : decode cX6_mix 8 = .ok (.lreturn, 1) := by decide +kernel
theorem dX6_isDay_0 : decode cX6_isDay 0 = .ok (.iload_n 0, 1) := by decide +kernel
theorem dX6_isDay_1 : decode cX6_isDay 1 = .ok (.ifCond .lt 12, 3) := by decide +kernel
theorem dX6_isDay_4 : decode cX6_isDay 4 = .ok (.iload_n 0, 1) := by decide +kernel
theorem dX6_isDay_5 : decode cX6_isDay 5 = .ok (.iconst 5, 1) := by decide +kernel
theorem dX6_isDay_6 : decode cX6_isDay 6 = .ok (.if_icmp .ge 7, 3) := by decide +kernel
theorem dX6_isDay_9 : decode cX6_isDay 9 = .ok (.iconst 1, 1) := by decide +kernel
theorem dX6_isDay_10 : decode cX6_isDay 10 = .ok (.goto 4, 3) := by decide +kernel
theorem dX6_isDay_13 : decode cX6_isDay 13 = .ok (.iconst 0, 1) := by decide +kernel
theorem dX6_isDay_14 : decode cX6_isDay 14 = .ok (.ireturn, 1) := by decide +kernel
theorem dX6_isHour_0 : decode cX6_isHour 0 = .ok (.iload_n 0, 1) := by decide +kernel
theorem dX6_isHour_1 : decode cX6_isHour 1 = .ok (.ifCond .lt 13, 3) := by decide +kernel
theorem dX6_isHour_4 : decode cX6_isHour 4 = .ok (.iload_n 0, 1) := by decide +kernel
theorem dX6_isHour_5 : decode cX6_isHour 5 = .ok (.bipush 10, 2) := by decide +kernel
theorem dX6_isHour_7 : decode cX6_isHour 7 = .ok (.if_icmp .ge 7, 3) := by decide +kernel
theorem dX6_isHour_10 : decode cX6_isHour 10 = .ok (.iconst 1, 1) := by decide +kernel
theorem dX6_isHour_11 : decode cX6_isHour 11 = .ok (.goto 4, 3) := by decide +kernel
theorem dX6_isHour_14 : decode cX6_isHour 14 = .ok (.iconst 0, 1) := by decide +kernel
theorem dX6_isHour_15 : decode cX6_isHour 15 = .ok (.ireturn, 1) := by decide +kernel
theorem dX6_isWeek_0 : decode cX6_isWeek 0 = .ok (.iload_n 0, 1) := by decide +kernel
theorem dX6_isWeek_1 : decode cX6_isWeek 1 = .ok (.ifCond .lt 13, 3) := by decide +kernel
theorem dX6_isWeek_4 : decode cX6_isWeek 4 = .ok (.iload_n 0, 1) := by decide +kernel
theorem dX6_isWeek_5 : decode cX6_isWeek 5 = .ok (.bipush 52, 2) := by decide +kernel
theorem dX6_isWeek_7 : decode cX6_isWeek 7 = .ok (.if_icmp .ge 7, 3) := by decide +kernel
theorem dX6_isWeek_10 : decode cX6_isWeek 10 = .ok (.iconst 1, 1) := by decide +kernel
theorem dX6_isWeek_11 : decode cX6_isWeek 11 = .ok (.goto 4, 3) := by decide +kernel
theorem dX6_isWeek_14 : decode cX6_isWeek 14 = .ok (.iconst 0, 1) := by decide +kernel
theorem dX6_isWeek_15 : decode cX6_isWeek 15 = .ok (.ireturn, 1) := by decide +kernel
theorem dX6_isGroup_0 : decode cX6_isGroup 0 = .ok (.iload_n 0, 1) := by decide +kernel
theorem dX6_isGroup_1 : decode cX6_isGroup 1 = .ok (.ifCond .lt 12, 3) := by decide +kernel
theorem dX6_isGroup_4 : decode cX6_isGroup 4 = .ok (.iload_n 0, 1) := by decide +kernel
theorem dX6_isGroup_5 : decode cX6_isGroup 5 = .ok (.iconst 3, 1) := by decide +kernel
theorem dX6_isGroup_6 : decode cX6_isGroup 6 = .ok (.if_icmp .ge 7, 3) := by decide +kernel
theorem dX6_isGroup_9 : decode cX6_isGroup 9 = .ok (.iconst 1, 1) := by decide +kernel
theorem dX6_isGroup_10 : decode cX6_isGroup 10 = .ok (.goto 4, 3) := by decide +kernel
theorem dX6_isGroup_13 : decode cX6_isGroup 13 = .ok (.iconst 0, 1) := by decide +kernel
theorem dX6_isGroup_14 : decode cX6_isGroup 14 = .ok (.ireturn, 1) := by decide +kernel
theorem dX6_isSpan_0 : decode cX6_isSpan 0 = .ok (.iload_n 0, 1) := by decide +kernel
theorem dX6_isSpan_1 : decode cX6_isSpan 1 = .ok (.ifCond .lt 18, 3) := by decide +kernel
theorem dX6_isSpan_4 : decode cX6_isSpan 4 = .ok (.iload_n 0, 1) := by decide +kernel
theorem dX6_isSpan_5 : decode cX6_isSpan 5 = .ok (.iload_n 1, 1) := by decide +kernel
theorem dX6_isSpan_6 : decode cX6_isSpan 6 = .ok (.if_icmp .gt 13, 3) := by decide +kernel
theorem dX6_isSpan_9 : decode cX6_isSpan 9 = .ok (.iload_n 1, 1) := by decide +kernel
theorem dX6_isSpan_10 : decode cX6_isSpan 10 = .ok (.bipush 10, 2) := by decide +kernel
theorem dX6_isSpan_12 : decode cX6_isSpan 12 = .ok (.if_icmp .gt 7, 3) := by decide +kernel
theorem dX6_isSpan_15 : decode cX6_isSpan 15 = .ok (.iconst 1, 1) := by decide +kernel
theorem dX6_isSpan_16 : decode cX6_isSpan 16 = .ok (.goto 4, 3) := by decide +kernel
theorem dX6_isSpan_19 : decode cX6_isSpan 19 = .ok (.iconst 0, 1) := by decide +kernel
theorem dX6_isSpan_20 : decode cX6_isSpan 20 = .ok (.ireturn, 1) := by decide +kernel
theorem dX6_hourOfWeek_0 : decode cX6_hourOfWeek 0 = .ok (.iload_n 0, 1) := by decide +kernel
theorem dX6_hourOfWeek_1 : decode cX6_hourOfWeek 1 = .ok (.bipush 10, 2) := by decide +kernel
theorem dX6_hourOfWeek_3 : decode cX6_hourOfWeek 3 = .ok (.imul, 1) := by decide +kernel
theorem dX6_hourOfWeek_4 : decode cX6_hourOfWeek 4 = .ok (.iload_n 1, 1) := by decide +kernel
theorem dX6_hourOfWeek_5 : decode cX6_hourOfWeek 5 = .ok (.iadd, 1) := by decide +kernel
theorem dX6_hourOfWeek_6 : decode cX6_hourOfWeek 6 = .ok (.ireturn, 1) := by decide +kernel
theorem dX6_hasHour_0 : decode cX6_hasHour 0 = .ok (.lload_n 0, 1) := by decide +kernel
theorem dX6_hasHour_1 : decode cX6_hasHour 1 = .ok (.iload_n 2, 1) := by decide +kernel
theorem dX6_hasHour_2 : decode cX6_hasHour 2 = .ok (.lushr, 1) := by decide +kernel
theorem dX6_hasHour_3 : decode cX6_hasHour 3 = .ok (.lconst 1, 1) := by decide +kernel
theorem dX6_hasHour_4 : decode cX6_hasHour 4 = .ok (.land, 1) := by decide +kernel
theorem dX6_hasHour_5 : decode cX6_hasHour 5 = .ok (.lconst 0, 1) := by decide +kernel
theorem dX6_hasHour_6 : decode cX6_hasHour 6 = .ok (.lcmp, 1) := by decide +kernel
theorem dX6_hasHour_7 : decode cX6_hasHour 7 = .ok (.ifCond .eq 7, 3) := by decide +kernel
theorem dX6_hasHour_10 : decode cX6_hasHour 10 = .ok (.iconst 1, 1) := by decide +kernel
theorem dX6_hasHour_11 : decode cX6_hasHour 11 = .ok (.goto 4, 3) := by decide +kernel
theorem dX6_hasHour_14 : decode cX6_hasHour 14 = .ok (.iconst 0, 1) := by decide +kernel
theorem dX6_hasHour_15 : decode cX6_hasHour 15 = .ok (.ireturn, 1) := by decide +kernel
theorem dX6_spanOf_0 : decode cX6_spanOf 0 = .ok (.lconst 1, 1) := by decide +kernel
theorem dX6_spanOf_1 : decode cX6_spanOf 1 = .ok (.iload_n 2, 1) := by decide +kernel
theorem dX6_spanOf_2 : decode cX6_spanOf 2 = .ok (.lshl, 1) := by decide +kernel
theorem dX6_spanOf_3 : decode cX6_spanOf 3 = .ok (.lconst 1, 1) := by decide +kernel
theorem dX6_spanOf_4 : decode cX6_spanOf 4 = .ok (.iload_n 1, 1) := by decide +kernel
theorem dX6_spanOf_5 : decode cX6_spanOf 5 = .ok (.lshl, 1) := by decide +kernel
theorem dX6_spanOf_6 : decode cX6_spanOf 6 = .ok (.lsub, 1) := by decide +kernel
theorem dX6_spanOf_7 : decode cX6_spanOf 7 = .ok (.lstore_n 3, 1) := by decide +kernel
theorem dX6_spanOf_8 : decode cX6_spanOf 8 = .ok (.lload_n 3, 1) := by decide +kernel
theorem dX6_spanOf_9 : decode cX6_spanOf 9 = .ok (.iload_n 0, 1) := by decide +kernel
theorem dX6_spanOf_10 : decode cX6_spanOf 10 = .ok (.iconst 0, 1) := by decide +kernel
theorem dX6_spanOf_11 : decode cX6_spanOf 11 = .ok (.invokestatic 174, 3) := by decide +kernel
theorem dX6_spanOf_14 : decode cX6_spanOf 14 = .ok (.lshl, 1) := by decide +kernel
theorem dX6_spanOf_15 : decode cX6_spanOf 15 = .ok (.lreturn, 1) := by decide +kernel
theorem dX6_withSpan_0 : decode cX6_withSpan 0 = .ok (.lload_n 0, 1) := by decide +kernel
theorem dX6_withSpan_1 : decode cX6_withSpan 1 = .ok (.iload_n 2, 1) := by decide +kernel
theorem dX6_withSpan_2 : decode cX6_withSpan 2 = .ok (.iconst 0, 1) := by decide +kernel
theorem dX6_withSpan_3 : decode cX6_withSpan 3 = .ok (.bipush 10, 2) := by decide +kernel
theorem dX6_withSpan_5 : decode cX6_withSpan 5 = .ok (.invokestatic 306, 3) := by decide +kernel
theorem dX6_withSpan_8 : decode cX6_withSpan 8 = .ok (.ldc2_w 108, 3) := by decide +kernel
theorem dX6_withSpan_11 : decode cX6_withSpan 11 = .ok (.lxor, 1) := by decide +kernel
theorem dX6_withSpan_12 : decode cX6_withSpan 12 = .ok (.land, 1) := by decide +kernel
theorem dX6_withSpan_13 : decode cX6_withSpan 13 = .ok (.iload_n 2, 1) := by decide +kernel
theorem dX6_withSpan_14 : decode cX6_withSpan 14 = .ok (.iload_n 3, 1) := by decide +kernel
theorem dX6_withSpan_15 : decode cX6_withSpan 15 = .ok (.iload 4, 2) := by decide +kernel
theorem dX6_withSpan_17 : decode cX6_withSpan 17 = .ok (.invokestatic 306, 3) := by decide +kernel
theorem dX6_withSpan_20 : decode cX6_withSpan 20 = .ok (.lor, 1) := by decide +kernel
theorem dX6_withSpan_21 : decode cX6_withSpan 21 = .ok (.lreturn, 1) := by decide +kernel
theorem dX7_init_0 : decode cX7_init 0 = .ok (.aload_n 0, 1) := by decide +kernel
theorem dX7_init_1 : decode cX7_init 1 = .ok (.invokespecial 1, 3) := by decide +kernel
theorem dX7_init_4 : decode cX7_init 4 = .ok (.aload_n 0, 1) := by decide +kernel
theorem dX7_init_5 : decode cX7_init 5 = .ok (.bipush 24, 2) := by decide +kernel
theorem dX7_init_7 : decode cX7_init 7 = .ok (.newarray .int, 2) := by decide +kernel
theorem dX7_init_9 : decode cX7_init 9 = .ok (.putfield 7, 3) := by decide +kernel
theorem dX7_init_12 : decode cX7_init 12 = .ok (.aload_n 0, 1) := by decide +kernel
theorem dX7_init_13 : decode cX7_init 13 = .ok (.bipush 24, 2) := by decide +kernel
theorem dX7_init_15 : decode cX7_init 15 = .ok (.newarray .int, 2) := by decide +kernel
theorem dX7_init_17 : decode cX7_init 17 = .ok (.putfield 13, 3) := by decide +kernel
theorem dX7_init_20 : decode cX7_init 20 = .ok (.aload_n 0, 1) := by decide +kernel
theorem dX7_init_21 : decode cX7_init 21 = .ok (.bipush 24, 2) := by decide +kernel
theorem dX7_init_23 : decode cX7_init 23 = .ok (.newarray .int, 2) := by decide +kernel
theorem dX7_init_25 : decode cX7_init 25 = .ok (.putfield 16, 3) := by decide +kernel
theorem dX7_init_28 : decode cX7_init 28 = .ok (.aload_n 0, 1) := by decide +kernel
theorem dX7_init_29 : decode cX7_init 29 = .ok (.bipush 24, 2) := by decide +kernel
theorem dX7_init_31 : decode cX7_init 31 = .ok (.newarray .int, 2) := by decide +kernel
theorem dX7_init_33 : decode cX7_init 33 = .ok (.putfield 19, 3) := by decide +kernel
theorem dX7_init_36 : decode cX7_init 36 = .ok (.aload_n 0, 1) := by decide +kernel
theorem dX7_init_37 : decode cX7_init 37 = .ok (.bipush 24, 2) := by decide +kernel
theorem dX7_init_39 : decode cX7_init 39 = .ok (.newarray .int, 2) := by decide +kernel
theorem dX7_init_41 : decode cX7_init 41 = .ok (.putfield 22, 3) := by decide +kernel
theorem dX7_init_44 : decode cX7_init 44 = .ok (.aload_n 0, 1) := by decide +kernel
theorem dX7_init_45 : decode cX7_init 45 = .ok (.bipush 120, 2) := by decide +kernel
theorem dX7_init_47 : decode cX7_init 47 = .ok (.newarray .int, 2) := by decide +kernel
theorem dX7_init_49 : decode cX7_init 49 = .ok (.putfield 25, 3) := by decide +kernel
theorem dX7_init_52 : decode cX7_init 52 = .ok (.aload_n 0, 1) := by decide +kernel
theorem dX7_init_53 : decode cX7_init 53 = .ok (.bipush 120, 2) := by decide +kernel
theorem dX7_init_55 : decode cX7_init 55 = .ok (.newarray .int, 2) := by decide +kernel
theorem dX7_init_57 : decode cX7_init 57 = .ok (.putfield 28, 3) := by decide +kernel
theorem dX7_init_60 : decode cX7_init 60 = .ok (.aload_n 0, 1) := by decide +kernel
theorem dX7_init_61 : decode cX7_init 61 = .ok (.bipush 8, 2) := by decide +kernel
theorem dX7_init_63 : decode cX7_init 63 = .ok (.newarray .int, 2) := by decide +kernel
theorem dX7_init_65 : decode cX7_init 65 = .ok (.putfield 31, 3) := by decide +kernel
theorem dX7_init_68 : decode cX7_init 68 = .ok (.aload_n 0, 1) := by decide +kernel
theorem dX7_init_69 : decode cX7_init 69 = .ok (.bipush 40, 2) := by decide +kernel
theorem dX7_init_71 : decode cX7_init 71 = .ok (.newarray .int, 2) := by decide +kernel
theorem dX7_init_73 : decode cX7_init 73 = .ok (.putfield 34, 3) := by decide +kernel
theorem dX7_init_76 : decode cX7_init 76 = .ok (.aload_n 0, 1) := by decide +kernel
theorem dX7_init_77 : decode cX7_init 77 = .ok (.bipush 40, 2) := by decide +kernel
theorem dX7_init_79 : decode cX7_init 79 = .ok (.newarray .int, 2) := by decide +kernel
theorem dX7_init_81 : decode cX7_init 81 = .ok (.putfield 37, 3) := by decide +kernel
theorem dX7_init_84 : decode cX7_init 84 = .ok (.aload_n 0, 1) := by decide +kernel
theorem dX7_init_85 : decode cX7_init 85 = .ok (.sipush 416, 3) := by decide +kernel
theorem dX7_init_88 : decode cX7_init 88 = .ok (.newarray .int, 2) := by decide +kernel
theorem dX7_init_90 : decode cX7_init 90 = .ok (.putfield 40, 3) := by decide +kernel
theorem dX7_init_93 : decode cX7_init 93 = .ok (.aload_n 0, 1) := by decide +kernel
theorem dX7_init_94 : decode cX7_init 94 = .ok (.iconst 3, 1) := by decide +kernel
theorem dX7_init_95 : decode cX7_init 95 = .ok (.newarray .int, 2) := by decide +kernel
theorem dX7_init_97 : decode cX7_init 97 = .ok (.putfield 43, 3) := by decide +kernel
theorem dX7_init_100 : decode cX7_init 100 = .ok (.aload_n 0, 1) := by decide +kernel
theorem dX7_init_101 : decode cX7_init 101 = .ok (.iconst 3, 1) := by decide +kernel
theorem dX7_init_102 : decode cX7_init 102 = .ok (.newarray .int, 2) := by decide +kernel
theorem dX7_init_104 : decode cX7_init 104 = .ok (.putfield 46, 3) := by decide +kernel
theorem dX7_init_107 : decode cX7_init 107 = .ok (.aload_n 0, 1) := by decide +kernel
theorem dX7_init_108 : decode cX7_init 108 = .ok (.bipush 20, 2) := by decide +kernel
theorem dX7_init_110 : decode cX7_init 110 = .ok (.putfield 49, 3) := by decide +kernel
theorem dX7_init_113 : decode cX7_init 113 = .ok (.aload_n 0, 1) := by decide +kernel
theorem dX7_init_114 : decode cX7_init 114 = .ok (.iconst 4, 1) := by decide +kernel
theorem dX7_init_115 : decode cX7_init 115 = .ok (.newarray .int, 2) := by decide +kernel
theorem dX7_init_117 : decode cX7_init 117 = .ok (.putfield 53, 3) := by decide +kernel
theorem dX7_init_120 : decode cX7_init 120 = .ok (.aload_n 0, 1) := by decide +kernel
theorem dX7_init_121 : decode cX7_init 121 = .ok (.iconst 4, 1) := by decide +kernel
theorem dX7_init_122 : decode cX7_init 122 = .ok (.newarray .int, 2) := by decide +kernel
theorem dX7_init_124 : decode cX7_init 124 = .ok (.putfield 56, 3) := by decide +kernel
theorem dX7_init_127 : decode cX7_init 127 = .ok (.aload_n 0, 1) := by decide +kernel
theorem dX7_init_128 : decode cX7_init 128 = .ok (.iconst 4, 1) := by decide +kernel
theorem dX7_init_129 : decode cX7_init 129 = .ok (.newarray .int, 2) := by decide +kernel
theorem dX7_init_131 : decode cX7_init 131 = .ok (.putfield 59, 3) := by decide +kernel
theorem dX7_init_134 : decode cX7_init 134 = .ok (.aload_n 0, 1) := by decide +kernel
theorem dX7_init_135 : decode cX7_init 135 = .ok (.iconst 5, 1) := by decide +kernel
theorem dX7_init_136 : decode cX7_init 136 = .ok (.newarray .int, 2) := by decide +kernel
theorem dX7_init_138 : decode cX7_init 138 = .ok (.putfield 62, 3) := by decide +kernel
theorem dX7_init_141 : decode cX7_init 141 = .ok (.aload_n 0, 1) := by decide +kernel
theorem dX7_init_142 : decode cX7_init 142 = .ok (.bipush 60, 2) := by decide +kernel
theorem dX7_init_144 : decode cX7_init 144 = .ok (.newarray .int, 2) := by decide +kernel
theorem dX7_init_146 : decode cX7_init 146 = .ok (.putfield 65, 3) := by decide +kernel
theorem dX7_init_149 : decode cX7_init 149 = .ok (.aload_n 0, 1) := by decide +kernel
theorem dX7_init_150 : decode cX7_init 150 = .ok (.iconst 5, 1) := by decide +kernel
theorem dX7_init_151 : decode cX7_init 151 = .ok (.newarray .int, 2) := by decide +kernel
theorem dX7_init_153 : decode cX7_init 153 = .ok (.putfield 68, 3) := by decide +kernel
theorem dX7_init_156 : decode cX7_init 156 = .ok (.aload_n 0, 1) := by decide +kernel
theorem dX7_init_157 : decode cX7_init 157 = .ok (.iconst 5, 1) := by decide +kernel
theorem dX7_init_158 : decode cX7_init 158 = .ok (.newarray .int, 2) := by decide +kernel
theorem dX7_init_160 : decode cX7_init 160 = .ok (.putfield 71, 3) := by decide +kernel
theorem dX7_init_163 : decode cX7_init 163 = .ok (.aload_n 0, 1) := by decide +kernel
theorem dX7_init_164 : decode cX7_init 164 = .ok (.sipush 7776, 3) := by decide +kernel
theorem dX7_init_167 : decode cX7_init 167 = .ok (.newarray .int, 2) := by decide +kernel
theorem dX7_init_169 : decode cX7_init 169 = .ok (.putfield 74, 3) := by decide +kernel
theorem dX7_init_172 : decode cX7_init 172 = .ok (.aload_n 0, 1) := by decide +kernel
theorem dX7_init_173 : decode cX7_init 173 = .ok (.getfield 43, 3) := by decide +kernel
theorem dX7_init_176 : decode cX7_init 176 = .ok (.iconst 0, 1) := by decide +kernel
theorem dX7_init_177 : decode cX7_init 177 = .ok (.iconst 4, 1) := by decide +kernel
theorem dX7_init_178 : decode cX7_init 178 = .ok (.iastore, 1) := by decide +kernel
theorem dX7_init_179 : decode cX7_init 179 = .ok (.aload_n 0, 1) := by decide +kernel
theorem dX7_init_180 : decode cX7_init 180 = .ok (.getfield 43, 3) := by decide +kernel
theorem dX7_init_183 : decode cX7_init 183 = .ok (.iconst 1, 1) := by decide +kernel
theorem dX7_init_184 : decode cX7_init 184 = .ok (.bipush 6, 2) := by decide +kernel
theorem dX7_init_186 : decode cX7_init 186 = .ok (.iastore, 1) := by decide +kernel
theorem dX7_init_187 : decode cX7_init 187 = .ok (.aload_n 0, 1) := by decide +kernel
theorem dX7_init_188 : decode cX7_init 188 = .ok (.getfield 43, 3) := by decide +kernel
theorem dX7_init_191 : decode cX7_init 191 = .ok (.iconst 2, 1) := by decide +kernel
theorem dX7_init_192 : decode cX7_init 192 = .ok (.bipush 10, 2) := by decide +kernel
theorem dX7_init_194 : decode cX7_init 194 = .ok (.iastore, 1) := by decide +kernel
theorem dX7_init_195 : decode cX7_init 195 = .ok (.aload_n 0, 1) := by decide +kernel
theorem dX7_init_196 : decode cX7_init 196 = .ok (.getfield 46, 3) := by decide +kernel
theorem dX7_init_199 : decode cX7_init 199 = .ok (.iconst 0, 1) := by decide +kernel
theorem dX7_init_200 : decode cX7_init 200 = .ok (.sipush 400, 3) := by decide +kernel
theorem dX7_init_203 : decode cX7_init 203 = .ok (.iastore, 1) := by decide +kernel
theorem dX7_init_204 : decode cX7_init 204 = .ok (.aload_n 0, 1) := by decide +kernel
theorem dX7_init_205 : decode cX7_init 205 = .ok (.getfield 46, 3) := by decide +kernel
theorem dX7_init_208 : decode cX7_init 208 = .ok (.iconst 1, 1) := by decide +kernel
theorem dX7_init_209 : decode cX7_init 209 = .ok (.sipush 300, 3) := by decide +kernel
theorem dX7_init_212 : decode cX7_init 212 = .ok (.iastore, 1) := by decide +kernel
theorem dX7_init_213 : decode cX7_init 213 = .ok (.aload_n 0, 1) := by decide +kernel
theorem dX7_init_214 : decode cX7_init 214 = .ok (.getfield 46, 3) := by decide +kernel
theorem dX7_init_217 : decode cX7_init 217 = .ok (.iconst 2, 1) := by decide +kernel
theorem dX7_init_218 : decode cX7_init 218 = .ok (.sipush 250, 3) := by decide +kernel
theorem dX7_init_221 : decode cX7_init 221 = .ok (.iastore, 1) := by decide +kernel
theorem dX7_init_222 : decode cX7_init 222 = .ok (.return_, 1) := by decide +kernel
theorem dX7_within_0 : decode cX7_within 0 = .ok (.iload_n 0, 1) := by decide +kernel
theorem dX7_within_1 : decode cX7_within 1 = .ok (.iload_n 1, 1) := by decide +kernel
theorem dX7_within_2 : decode cX7_within 2 = .ok (.if_icmp .lt 12, 3) := by decide +kernel
theorem dX7_within_5 : decode cX7_within 5 = .ok (.iload_n 0, 1) := by decide +kernel
theorem dX7_within_6 : decode cX7_within 6 = .ok (.iload_n 2, 1) := by decide +kernel
theorem dX7_within_7 : decode cX7_within 7 = .ok (.if_icmp .gt 7, 3) := by decide +kernel
theorem dX7_within_10 : decode cX7_within 10 = .ok (.iconst 1, 1) := by decide +kernel
theorem dX7_within_11 : decode cX7_within 11 = .ok (.goto 4, 3) := by decide +kernel
theorem dX7_within_14 : decode cX7_within 14 = .ok (.iconst 0, 1) := by decide +kernel
theorem dX7_within_15 : decode cX7_within 15 = .ok (.ireturn, 1) := by decide +kernel
theorem dX7_isDay_0 : decode cX7_isDay 0 = .ok (.iload_n 0, 1) := by decide +kernel
theorem dX7_isDay_1 : decode cX7_isDay 1 = .ok (.iconst 0, 1) := by decide +kernel
theorem dX7_isDay_2 : decode cX7_isDay 2 = .ok (.iconst 4, 1) := by decide +kernel
theorem dX7_isDay_3 : decode cX7_isDay 3 = .ok (.invokestatic 77, 3) := by decide +kernel
theorem dX7_isDay_6 : decode cX7_isDay 6 = .ok (.ireturn, 1) := by decide +kernel
theorem dX7_isSpan_0 : decode cX7_isSpan 0 = .ok (.iload_n 0, 1) := by decide +kernel
theorem dX7_isSpan_1 : decode cX7_isSpan 1 = .ok (.iconst 0, 1) := by decide +kernel
theorem dX7_isSpan_2 : decode cX7_isSpan 2 = .ok (.bipush 10, 2) := by decide +kernel
theorem dX7_isSpan_4 : decode cX7_isSpan 4 = .ok (.invokestatic 77, 3) := by decide +kernel
theorem dX7_isSpan_7 : decode cX7_isSpan 7 = .ok (.ifCond .eq 17, 3) := by decide +kernel
theorem dX7_isSpan_10 : decode cX7_isSpan 10 = .ok (.iload_n 1, 1) := by decide +kernel
theorem dX7_isSpan_11 : decode cX7_isSpan 11 = .ok (.iload_n 0, 1) := by decide +kernel
theorem dX7_isSpan_12 : decode cX7_isSpan 12 = .ok (.bipush 10, 2) := by decide +kernel
theorem dX7_isSpan_14 : decode cX7_isSpan 14 = .ok (.invokestatic 77, 3) := by decide +kernel
theorem dX7_isSpan_17 : decode cX7_isSpan 17 = .ok (.ifCond .eq 7, 3) := by decide +kernel
theorem dX7_isSpan_20 : decode cX7_isSpan 20 = .ok (.iconst 1, 1) := by decide +kernel
theorem dX7_isSpan_21 : decode cX7_isSpan 21 = .ok (.goto 4, 3) := by decide +kernel
theorem dX7_isSpan_24 : decode cX7_isSpan 24 = .ok (.iconst 0, 1) := by decide +kernel
theorem dX7_isSpan_25 : decode cX7_isSpan 25 = .ok (.ireturn, 1) := by decide +kernel
theorem dX7_hasChild_0 : decode cX7_hasChild 0 = .ok (.iload_n 1, 1) := by decide +kernel
theorem dX7_hasChild_1 : decode cX7_hasChild 1 = .ok (.iconst 0, 1) := by decide +kernel
theorem dX7_hasChild_2 : decode cX7_hasChild 2 = .ok (.bipush 23, 2) := by decide +kernel
theorem dX7_hasChild_4 : decode cX7_hasChild 4 = .ok (.invokestatic 77, 3) := by decide +kernel
theorem dX7_hasChild_7 : decode cX7_hasChild 7 = .ok (.ifCond .eq 17, 3) := by decide +kernel
theorem dX7_hasChild_10 : decode cX7_hasChild 10 = .ok (.aload_n 0, 1) := by decide +kernel
theorem dX7_hasChild_11 : decode cX7_hasChild 11 = .ok (.getfield 7, 3) := by decide +kernel
theorem dX7_hasChild_14 : decode cX7_hasChild 14 = .ok (.iload_n 1, 1) := by decide +kernel
theorem dX7_hasChild_15 : decode cX7_hasChild 15 = .ok (.iaload, 1) := by decide +kernel
theorem dX7_hasChild_16 : decode cX7_hasChild 16 = .ok (.iconst 1, 1) := by decide +kernel
theorem dX7_hasChild_17 : decode cX7_hasChild 17 = .ok (.if_icmp .ne 7, 3) := by decide +kernel
theorem dX7_hasChild_20 : decode cX7_hasChild 20 = .ok (.iconst 1, 1) := by decide +kernel
theorem dX7_hasChild_21 : decode cX7_hasChild 21 = .ok (.goto 4, 3) := by decide +kernel
theorem dX7_hasChild_24 : decode cX7_hasChild 24 = .ok (.iconst 0, 1) := by decide +kernel
theorem dX7_hasChild_25 : decode cX7_hasChild 25 = .ok (.ireturn, 1) := by decide +kernel
theorem dX7_isIn_0 : decode cX7_isIn 0 = .ok (.aload_n 0, 1) := by decide +kernel
theorem dX7_isIn_1 : decode cX7_isIn 1 = .ok (.getfield 7, 3) := by decide +kernel
theorem dX7_isIn_4 : decode cX7_isIn 4 = .ok (.iload_n 1, 1) := by decide +kernel
theorem dX7_isIn_5 : decode cX7_isIn 5 = .ok (.iaload, 1) := by decide +kernel
theorem dX7_isIn_6 : decode cX7_isIn 6 = .ok (.iconst 1, 1) := by decide +kernel
theorem dX7_isIn_7 : decode cX7_isIn 7 = .ok (.if_icmp .ne 17, 3) := by decide +kernel
theorem dX7_isIn_10 : decode cX7_isIn 10 = .ok (.aload_n 0, 1) := by decide +kernel
theorem dX7_isIn_11 : decode cX7_isIn 11 = .ok (.getfield 19, 3) := by decide +kernel
theorem dX7_isIn_14 : decode cX7_isIn 14 = .ok (.iload_n 1, 1) := by decide +kernel
theorem dX7_isIn_15 : decode cX7_isIn 15 = .ok (.iaload, 1) := by decide +kernel
theorem dX7_isIn_16 : decode cX7_isIn 16 = .ok (.iconst 1, 1) := by decide +kernel
theorem dX7_isIn_17 : decode cX7_isIn 17 = .ok (.if_icmp .ne 7, 3) := by decide +kernel
theorem dX7_isIn_20 : decode cX7_isIn 20 = .ok (.iconst 1, 1) := by decide +kernel
theorem dX7_isIn_21 : decode cX7_isIn 21 = .ok (.goto 4, 3) := by decide +kernel
theorem dX7_isIn_24 : decode cX7_isIn 24 = .ok (.iconst 0, 1) := by decide +kernel
theorem dX7_isIn_25 : decode cX7_isIn 25 = .ok (.ireturn, 1) := by decide +kernel
theorem dX7_childMany_0 : decode cX7_childMany 0 = .ok (.iconst 0, 1) := by decide +kernel
theorem dX7_childMany_1 : decode cX7_childMany 1 = .ok (.istore_n 1, 1) := by decide +kernel
theorem dX7_childMany_2 : decode cX7_childMany 2 = .ok (.iconst 0, 1) := by decide +kernel
theorem dX7_childMany_3 : decode cX7_childMany 3 = .ok (.istore_n 2, 1) := by decide +kernel
theorem dX7_childMany_4 : decode cX7_childMany 4 = .ok (.iload_n 2, 1) := by decide +kernel
theorem dX7_childMany_5 : decode cX7_childMany 5 = .ok (.bipush 24, 2) := by decide +kernel
theorem dX7_childMany_7 : decode cX7_childMany 7 = .ok (.if_icmp .ge 18, 3) := by decide +kernel
theorem dX7_childMany_10 : decode cX7_childMany 10 = .ok (.iload_n 1, 1) := by decide +kernel
theorem dX7_childMany_11 : decode cX7_childMany 11 = .ok (.aload_n 0, 1) := by decide +kernel
theorem dX7_childMany_12 : decode cX7_childMany 12 = .ok (.getfield 7, 3) := by decide +kernel
theorem dX7_childMany_15 : decode cX7_childMany 15 = .ok (.iload_n 2, 1) := by decide +kernel
theorem dX7_childMany_16 : decode cX7_childMany 16 = .ok (.iaload, 1) := by decide +kernel
theorem dX7_childMany_17 : decode cX7_childMany 17 = .ok (.iadd, 1) := by decide +kernel
theorem dX7_childMany_18 : decode cX7_childMany 18 = .ok (.istore_n 1, 1) := by decide +kernel
theorem dX7_childMany_19 : decode cX7_childMany 19 = .ok (.iinc 2 1, 3) := by decide +kernel
theorem dX7_childMany_22 : decode cX7_childMany 22 = .ok (.goto (-18), 3) := by decide +kernel
theorem dX7_childMany_25 : decode cX7_childMany 25 = .ok (.iload_n 1, 1) := by decide +kernel
theorem dX7_childMany_26 : decode cX7_childMany 26 = .ok (.ireturn, 1) := by decide +kernel
theorem dX7_addChild_0 : decode cX7_addChild 0 = .ok (.iload_n 1, 1) := by decide +kernel
theorem dX7_addChild_1 : decode cX7_addChild 1 = .ok (.iconst 3, 1) := by decide +kernel
theorem dX7_addChild_2 : decode cX7_addChild 2 = .ok (.bipush 77, 2) := by decide +kernel
theorem dX7_addChild_4 : decode cX7_addChild 4 = .ok (.invokestatic 77, 3) := by decide +kernel
theorem dX7_addChild_7 : decode cX7_addChild 7 = .ok (.ifCond .eq 13, 3) := by decide +kernel
theorem dX7_addChild_10 : decode cX7_addChild 10 = .ok (.iload_n 2, 1) := by decide +kernel
theorem dX7_addChild_11 : decode cX7_addChild 11 = .ok (.iconst 0, 1) := by decide +kernel
theorem dX7_addChild_12 : decode cX7_addChild 12 = .ok (.bipush 11, 2) := by decide +kernel
theorem dX7_addChild_14 : decode cX7_addChild 14 = .ok (.invokestatic 77, 3) := by decide +kernel
theorem dX7_addChild_17 : decode cX7_addChild 17 = .ok (.ifCond .ne 5, 3) := by decide +kernel
theorem dX7_addChild_20 : decode cX7_addChild 20 = .ok (.iconst (-1), 1) := by decide +kernel
theorem dX7_addChild_21 : decode cX7_addChild 21 = .ok (.ireturn, 1) := by decide +kernel
theorem dX7_addChild_22 : decode cX7_addChild 22 = .ok (.aload_n 0, 1) := by decide +kernel
theorem dX7_addChild_23 : decode cX7_addChild 23 = .ok (.invokevirtual 81, 3) := by decide +kernel
theorem dX7_addChild_26 : decode cX7_addChild 26 = .ok (.bipush 24, 2) := by decide +kernel
theorem dX7_addChild_28 : decode cX7_addChild 28 = .ok (.if_icmp .ne 6, 3) := by decide +kernel
theorem dX7_addChild_31 : decode cX7_addChild 31 = .ok (.bipush (-3), 2) := by decide +kernel
theorem dX7_addChild_33 : decode cX7_addChild 33 = .ok (.ireturn, 1) := by decide +kernel
theorem dX7_addChild_34 : decode cX7_addChild 34 = .ok (.iconst 0, 1) := by decide +kernel
theorem dX7_addChild_35 : decode cX7_addChild 35 = .ok (.istore_n 3, 1) := by decide +kernel
theorem dX7_addChild_36 : decode cX7_addChild 36 = .ok (.aload_n 0, 1) := by decide +kernel
theorem dX7_addChild_37 : decode cX7_addChild 37 = .ok (.getfield 7, 3) := by decide +kernel
theorem dX7_addChild_40 : decode cX7_addChild 40 = .ok (.iload_n 3, 1) := by decide +kernel
theorem dX7_addChild_41 : decode cX7_addChild 41 = .ok (.iaload, 1) := by decide +kernel
theorem dX7_addChild_42 : decode cX7_addChild 42 = .ok (.iconst 1, 1) := by decide +kernel
theorem dX7_addChild_43 : decode cX7_addChild 43 = .ok (.if_icmp .ne 9, 3) := by decide +kernel
theorem dX7_addChild_46 : decode cX7_addChild 46 = .ok (.iinc 3 1, 3) := by decide +kernel
theorem dX7_addChild_49 : decode cX7_addChild 49 = .ok (.goto (-13), 3) := by decide +kernel
theorem dX7_addChild_52 : decode cX7_addChild 52 = .ok (.aload_n 0, 1) := by decide +kernel
theorem dX7_addChild_53 : decode cX7_addChild 53 = .ok (.getfield 7, 3) := by decide +kernel
theorem dX7_addChild_56 : decode cX7_addChild 56 = .ok (.iload_n 3, 1) := by decide +kernel
theorem dX7_addChild_57 : decode cX7_addChild 57 = .ok (.iconst 1, 1) := by decide +kernel
theorem dX7_addChild_58 : decode cX7_addChild 58 = .ok (.iastore, 1) := by decide +kernel
theorem dX7_addChild_59 : decode cX7_addChild 59 = .ok (.aload_n 0, 1) := by decide +kernel
theorem dX7_addChild_60 : decode cX7_addChild 60 = .ok (.getfield 13, 3) := by decide +kernel
theorem dX7_addChild_63 : decode cX7_addChild 63 = .ok (.iload_n 3, 1) := by decide +kernel
theorem dX7_addChild_64 : decode cX7_addChild 64 = .ok (.iload_n 1, 1) := by decide +kernel
theorem dX7_addChild_65 : decode cX7_addChild 65 = .ok (.iastore, 1) := by decide +kernel
theorem dX7_addChild_66 : decode cX7_addChild 66 = .ok (.aload_n 0, 1) := by decide +kernel
theorem dX7_addChild_67 : decode cX7_addChild 67 = .ok (.getfield 16, 3) := by decide +kernel
theorem dX7_addChild_70 : decode cX7_addChild 70 = .ok (.iload_n 3, 1) := by decide +kernel
theorem dX7_addChild_71 : decode cX7_addChild 71 = .ok (.iload_n 2, 1) := by decide +kernel
theorem dX7_addChild_72 : decode cX7_addChild 72 = .ok (.iastore, 1) := by decide +kernel
theorem dX7_addChild_73 : decode cX7_addChild 73 = .ok (.aload_n 0, 1) := by decide +kernel
theorem dX7_addChild_74 : decode cX7_addChild 74 = .ok (.getfield 19, 3) := by decide +kernel
theorem dX7_addChild_77 : decode cX7_addChild 77 = .ok (.iload_n 3, 1) := by decide +kernel
theorem dX7_addChild_78 : decode cX7_addChild 78 = .ok (.iconst 0, 1) := by decide +kernel
theorem dX7_addChild_79 : decode cX7_addChild 79 = .ok (.iastore, 1) := by decide +kernel
theorem dX7_addChild_80 : decode cX7_addChild 80 = .ok (.aload_n 0, 1) := by decide +kernel
theorem dX7_addChild_81 : decode cX7_addChild 81 = .ok (.getfield 22, 3) := by decide +kernel
theorem dX7_addChild_84 : decode cX7_addChild 84 = .ok (.iload_n 3, 1) := by decide +kernel
theorem dX7_addChild_85 : decode cX7_addChild 85 = .ok (.iconst 0, 1) := by decide +kernel
theorem dX7_addChild_86 : decode cX7_addChild 86 = .ok (.iastore, 1) := by decide +kernel
theorem dX7_addChild_87 : decode cX7_addChild 87 = .ok (.iconst 0, 1) := by decide +kernel
theorem dX7_addChild_88 : decode cX7_addChild 88 = .ok (.istore 4, 2) := by decide +kernel
theorem dX7_addChild_90 : decode cX7_addChild 90 = .ok (.iload 4, 2) := by decide +kernel
theorem dX7_addChild_92 : decode cX7_addChild 92 = .ok (.iconst 5, 1) := by decide +kernel
theorem dX7_addChild_93 : decode cX7_addChild 93 = .ok (.if_icmp .ge 33, 3) := by decide +kernel
theorem dX7_addChild_96 : decode cX7_addChild 96 = .ok (.aload_n 0, 1) := by decide +kernel
theorem dX7_addChild_97 : decode cX7_addChild 97 = .ok (.getfield 25, 3) := by decide +kernel
theorem dX7_addChild_100 : decode cX7_addChild 100 = .ok (.iconst 5, 1) := by decide +kernel
theorem dX7_addChild_101 : decode cX7_addChild 101 = .ok (.iload_n 3, 1) := by decide +kernel
theorem dX7_addChild_102 : decode cX7_addChild 102 = .ok (.imul, 1) := by decide +kernel
theorem dX7_addChild_103 : decode cX7_addChild 103 = .ok (.iload 4, 2) := by decide +kernel
theorem dX7_addChild_105 : decode cX7_addChild 105 = .ok (.iadd, 1) := by decide +kernel
theorem dX7_addChild_106 : decode cX7_addChild 106 = .ok (.iconst 0, 1) := by decide +kernel
theorem dX7_addChild_107 : decode cX7_addChild 107 = .ok (.iastore, 1) := by decide +kernel
theorem dX7_addChild_108 : decode cX7_addChild 108 = .ok (.aload_n 0, 1) := by decide +kernel
theorem dX7_addChild_109 : decode cX7_addChild 109 = .ok (.getfield 28, 3) := by decide +kernel
theorem dX7_addChild_112 : decode cX7_addChild 112 = .ok (.iconst 5, 1) := by decide +kernel
theorem dX7_addChild_113 : decode cX7_addChild 113 = .ok (.iload_n 3, 1) := by decide +kernel
theorem dX7_addChild_114 : decode cX7_addChild 114 = .ok (.imul, 1) := by decide +kernel
theorem dX7_addChild_115 : decode cX7_addChild 115 = .ok (.iload 4, 2) := by decide +kernel
theorem dX7_addChild_117 : decode cX7_addChild 117 = .ok (.iadd, 1) := by decide +kernel
theorem dX7_addChild_118 : decode cX7_addChild 118 = .ok (.iconst 0, 1) := by decide +kernel
theorem dX7_addChild_119 : decode cX7_addChild 119 = .ok (.iastore, 1) := by decide +kernel
theorem dX7_addChild_120 : decode cX7_addChild 120 = .ok (.iinc 4 1, 3) := by decide +kernel
theorem dX7_addChild_123 : decode cX7_addChild 123 = .ok (.goto (-33), 3) := by decide +kernel
theorem dX7_addChild_126 : decode cX7_addChild 126 = .ok (.iload_n 3, 1) := by decide +kernel
theorem dX7_addChild_127 : decode cX7_addChild 127 = .ok (.ireturn, 1) := by decide +kernel
theorem dX7_removeChild_0 : decode cX7_removeChild 0 = .ok (.aload_n 0, 1) := by decide +kernel
theorem dX7_removeChild_1 : decode cX7_removeChild 1 = .ok (.iload_n 1, 1) := by decide +kernel
theorem dX7_removeChild_2 : decode cX7_removeChild 2 = .ok (.invokevirtual 85, 3) := by decide +kernel
theorem dX7_removeChild_5 : decode cX7_removeChild 5 = .ok (.ifCond .ne 5, 3) := by decide +kernel
theorem dX7_removeChild_8 : decode cX7_removeChild 8 = .ok (.iconst (-1), 1) := by decide +kernel
theorem dX7_removeChild_9 : decode cX7_removeChild 9 = .ok (.ireturn, 1) := by decide +kernel
theorem dX7_removeChild_10 : decode cX7_removeChild 10 = .ok (.aload_n 0, 1) := by decide +kernel
theorem dX7_removeChild_11 : decode cX7_removeChild 11 = .ok (.getfield 7, 3) := by decide +kernel
theorem dX7_removeChild_14 : decode cX7_removeChild 14 = .ok (.iload_n 1, 1) := by decide +kernel
theorem dX7_removeChild_15 : decode cX7_removeChild 15 = .ok (.iconst 0, 1) := by decide +kernel
theorem dX7_removeChild_16 : decode cX7_removeChild 16 = .ok (.iastore, 1) := by decide +kernel
theorem dX7_removeChild_17 : decode cX7_removeChild 17 = .ok (.aload_n 0, 1) := by decide +kernel
theorem dX7_removeChild_18 : decode cX7_removeChild 18 = .ok (.invokevirtual 81, 3) := by decide +kernel
theorem dX7_removeChild_21 : decode cX7_removeChild 21 = .ok (.ireturn, 1) := by decide +kernel
theorem dX7_children_0 : decode cX7_children 0 = .ok (.aload_n 0, 1) := by decide +kernel
theorem dX7_children_1 : decode cX7_children 1 = .ok (.invokevirtual 81, 3) := by decide +kernel
theorem dX7_children_4 : decode cX7_children 4 = .ok (.ireturn, 1) := by decide +kernel
theorem dX7_age_0 : decode cX7_age 0 = .ok (.aload_n 0, 1) := by decide +kernel
theorem dX7_age_1 : decode cX7_age 1 = .ok (.iload_n 1, 1) := by decide +kernel
theorem dX7_age_2 : decode cX7_age 2 = .ok (.invokevirtual 85, 3) := by decide +kernel
theorem dX7_age_5 : decode cX7_age 5 = .ok (.ifCond .eq 12, 3) := by decide +kernel
theorem dX7_age_8 : decode cX7_age 8 = .ok (.aload_n 0, 1) := by decide +kernel
theorem dX7_age_9 : decode cX7_age 9 = .ok (.getfield 13, 3) := by decide +kernel
theorem dX7_age_12 : decode cX7_age 12 = .ok (.iload_n 1, 1) := by decide +kernel
theorem dX7_age_13 : decode cX7_age 13 = .ok (.iaload, 1) := by decide +kernel
theorem dX7_age_14 : decode cX7_age 14 = .ok (.goto 4, 3) := by decide +kernel
theorem dX7_age_17 : decode cX7_age 17 = .ok (.iconst (-1), 1) := by decide +kernel
theorem dX7_age_18 : decode cX7_age 18 = .ok (.ireturn, 1) := by decide +kernel
theorem dX7_isAdmitted_0 : decode cX7_isAdmitted 0 = .ok (.aload_n 0, 1) := by decide +kernel
theorem dX7_isAdmitted_1 : decode cX7_isAdmitted 1 = .ok (.iload_n 1, 1) := by decide +kernel
theorem dX7_isAdmitted_2 : decode cX7_isAdmitted 2 = .ok (.invokevirtual 85, 3) := by decide +kernel
theorem dX7_isAdmitted_5 : decode cX7_isAdmitted 5 = .ok (.ifCond .eq 12, 3) := by decide +kernel
theorem dX7_isAdmitted_8 : decode cX7_isAdmitted 8 = .ok (.aload_n 0, 1) := by decide +kernel
theorem dX7_isAdmitted_9 : decode cX7_isAdmitted 9 = .ok (.getfield 19, 3) := by decide +kernel
theorem dX7_isAdmitted_12 : decode cX7_isAdmitted 12 = .ok (.iload_n 1, 1) := by decide +kernel
theorem dX7_isAdmitted_13 : decode cX7_isAdmitted 13 = .ok (.iaload, 1) := by decide +kernel
theorem dX7_isAdmitted_14 : decode cX7_isAdmitted 14 = .ok (.goto 4, 3) := by decide +kernel
theorem dX7_isAdmitted_17 : decode cX7_isAdmitted 17 = .ok (.iconst (-1), 1) := by decide +kernel
theorem dX7_isAdmitted_18 : decode cX7_isAdmitted 18 = .ok (.ireturn, 1) := by decide +kernel
theorem dX7_hoursOf_0 : decode cX7_hoursOf 0 = .ok (.iconst 0, 1) := by decide +kernel
theorem dX7_hoursOf_1 : decode cX7_hoursOf 1 = .ok (.istore_n 2, 1) := by decide +kernel
theorem dX7_hoursOf_2 : decode cX7_hoursOf 2 = .ok (.iconst 0, 1) := by decide +kernel
theorem dX7_hoursOf_3 : decode cX7_hoursOf 3 = .ok (.istore_n 3, 1) := by decide +kernel
theorem dX7_hoursOf_4 : decode cX7_hoursOf 4 = .ok (.iload_n 3, 1) := by decide +kernel
theorem dX7_hoursOf_5 : decode cX7_hoursOf 5 = .ok (.iconst 5, 1) := by decide +kernel
theorem dX7_hoursOf_6 : decode cX7_hoursOf 6 = .ok (.if_icmp .ge 33, 3) := by decide +kernel
theorem dX7_hoursOf_9 : decode cX7_hoursOf 9 = .ok (.iload_n 2, 1) := by decide +kernel
theorem dX7_hoursOf_10 : decode cX7_hoursOf 10 = .ok (.aload_n 0, 1) := by decide +kernel
theorem dX7_hoursOf_11 : decode cX7_hoursOf 11 = .ok (.getfield 28, 3) := by decide +kernel
theorem dX7_hoursOf_14 : decode cX7_hoursOf 14 = .ok (.iconst 5, 1) := by decide +kernel
theorem dX7_hoursOf_15 : decode cX7_hoursOf 15 = .ok (.iload_n 1, 1) := by decide +kernel
theorem dX7_hoursOf_16 : decode cX7_hoursOf 16 = .ok (.imul, 1) := by decide +kernel
theorem dX7_hoursOf_17 : decode cX7_hoursOf 17 = .ok (.iload_n 3, 1) := by decide +kernel
theorem dX7_hoursOf_18 : decode cX7_hoursOf 18 = .ok (.iadd, 1) := by decide +kernel
theorem dX7_hoursOf_19 : decode cX7_hoursOf 19 = .ok (.iaload, 1) := by decide +kernel
theorem dX7_hoursOf_20 : decode cX7_hoursOf 20 = .ok (.aload_n 0, 1) := by decide +kernel
theorem dX7_hoursOf_21 : decode cX7_hoursOf 21 = .ok (.getfield 25, 3) := by decide +kernel
theorem dX7_hoursOf_24 : decode cX7_hoursOf 24 = .ok (.iconst 5, 1) := by decide +kernel
theorem dX7_hoursOf_25 : decode cX7_hoursOf 25 = .ok (.iload_n 1, 1) := by decide +kernel
theorem dX7_hoursOf_26 : decode cX7_hoursOf 26 = .ok (.imul, 1) := by decide +kernel
theorem dX7_hoursOf_27 : decode cX7_hoursOf 27 = .ok (.iload_n 3, 1) := by decide +kernel
theorem dX7_hoursOf_28 : decode cX7_hoursOf 28 = .ok (.iadd, 1) := by decide +kernel
theorem dX7_hoursOf_29 : decode cX7_hoursOf 29 = .ok (.iaload, 1) := by decide +kernel
theorem dX7_hoursOf_30 : decode cX7_hoursOf 30 = .ok (.isub, 1) := by decide +kernel
theorem dX7_hoursOf_31 : decode cX7_hoursOf 31 = .ok (.iadd, 1) := by decide +kernel
theorem dX7_hoursOf_32 : decode cX7_hoursOf 32 = .ok (.istore_n 2, 1) := by decide +kernel
theorem dX7_hoursOf_33 : decode cX7_hoursOf 33 = .ok (.iinc 3 1, 3) := by decide +kernel
theorem dX7_hoursOf_36 : decode cX7_hoursOf 36 = .ok (.goto (-32), 3) := by decide +kernel
theorem dX7_hoursOf_39 : decode cX7_hoursOf 39 = .ok (.iload_n 2, 1) := by decide +kernel
theorem dX7_hoursOf_40 : decode cX7_hoursOf 40 = .ok (.ireturn, 1) := by decide +kernel
theorem dX7_hours_0 : decode cX7_hours 0 = .ok (.aload_n 0, 1) := by decide +kernel
theorem dX7_hours_1 : decode cX7_hours 1 = .ok (.iload_n 1, 1) := by decide +kernel
theorem dX7_hours_2 : decode cX7_hours 2 = .ok (.invokevirtual 85, 3) := by decide +kernel
theorem dX7_hours_5 : decode cX7_hours 5 = .ok (.ifCond .eq 11, 3) := by decide +kernel
theorem dX7_hours_8 : decode cX7_hours 8 = .ok (.aload_n 0, 1) := by decide +kernel
theorem dX7_hours_9 : decode cX7_hours 9 = .ok (.iload_n 1, 1) := by decide +kernel
theorem dX7_hours_10 : decode cX7_hours 10 = .ok (.invokevirtual 89, 3) := by decide +kernel
theorem dX7_hours_13 : decode cX7_hours 13 = .ok (.goto 4, 3) := by decide +kernel
theorem dX7_hours_16 : decode cX7_hours 16 = .ok (.iconst (-1), 1) := by decide +kernel
theorem dX7_hours_17 : decode cX7_hours 17 = .ok (.ireturn, 1) := by decide +kernel
theorem dX7_isBooked_0 : decode cX7_isBooked 0 = .ok (.iload_n 3, 1) := by decide +kernel
theorem dX7_isBooked_1 : decode cX7_isBooked 1 = .ok (.aload_n 0, 1) := by decide +kernel
theorem dX7_isBooked_2 : decode cX7_isBooked 2 = .ok (.getfield 25, 3) := by decide +kernel
theorem dX7_isBooked_5 : decode cX7_isBooked 5 = .ok (.iconst 5, 1) := by decide +kernel
theorem dX7_isBooked_6 : decode cX7_isBooked 6 = .ok (.iload_n 1, 1) := by decide +kernel
theorem dX7_isBooked_7 : decode cX7_isBooked 7 = .ok (.imul, 1) := by decide +kernel
theorem dX7_isBooked_8 : decode cX7_isBooked 8 = .ok (.iload_n 2, 1) := by decide +kernel
theorem dX7_isBooked_9 : decode cX7_isBooked 9 = .ok (.iadd, 1) := by decide +kernel
theorem dX7_isBooked_10 : decode cX7_isBooked 10 = .ok (.iaload, 1) := by decide +kernel
theorem dX7_isBooked_11 : decode cX7_isBooked 11 = .ok (.aload_n 0, 1) := by decide +kernel
theorem dX7_isBooked_12 : decode cX7_isBooked 12 = .ok (.getfield 28, 3) := by decide +kernel
theorem dX7_isBooked_15 : decode cX7_isBooked 15 = .ok (.iconst 5, 1) := by decide +kernel
theorem dX7_isBooked_16 : decode cX7_isBooked 16 = .ok (.iload_n 1, 1) := by decide +kernel
theorem dX7_isBooked_17 : decode cX7_isBooked 17 = .ok (.imul, 1) := by decide +kernel
theorem dX7_isBooked_18 : decode cX7_isBooked 18 = .ok (.iload_n 2, 1) := by decide +kernel
theorem dX7_isBooked_19 : decode cX7_isBooked 19 = .ok (.iadd, 1) := by decide +kernel
theorem dX7_isBooked_20 : decode cX7_isBooked 20 = .ok (.iaload, 1) := by decide +kernel
theorem dX7_isBooked_21 : decode cX7_isBooked 21 = .ok (.iconst 1, 1) := by decide +kernel
theorem dX7_isBooked_22 : decode cX7_isBooked 22 = .ok (.isub, 1) := by decide +kernel
theorem dX7_isBooked_23 : decode cX7_isBooked 23 = .ok (.invokestatic 77, 3) := by decide +kernel
theorem dX7_isBooked_26 : decode cX7_isBooked 26 = .ok (.ireturn, 1) := by decide +kernel
theorem dX7_ageGroup_0 : decode cX7_ageGroup 0 = .ok (.aload_n 0, 1) := by decide +kernel
theorem dX7_ageGroup_1 : decode cX7_ageGroup 1 = .ok (.getfield 13, 3) := by decide +kernel
theorem dX7_ageGroup_4 : decode cX7_ageGroup 4 = .ok (.iload_n 1, 1) := by decide +kernel
theorem dX7_ageGroup_5 : decode cX7_ageGroup 5 = .ok (.iaload, 1) := by decide +kernel
theorem dX7_ageGroup_6 : decode cX7_ageGroup 6 = .ok (.bipush 24, 2) := by decide +kernel
theorem dX7_ageGroup_8 : decode cX7_ageGroup 8 = .ok (.if_icmp .ge 7, 3) := by decide +kernel
theorem dX7_ageGroup_11 : decode cX7_ageGroup 11 = .ok (.iconst 0, 1) := by decide +kernel
theorem dX7_ageGroup_12 : decode cX7_ageGroup 12 = .ok (.goto 19, 3) := by decide +kernel
theorem dX7_ageGroup_15 : decode cX7_ageGroup 15 = .ok (.aload_n 0, 1) := by decide +kernel
theorem dX7_ageGroup_16 : decode cX7_ageGroup 16 = .ok (.getfield 13, 3) := by decide +kernel
theorem dX7_ageGroup_19 : decode cX7_ageGroup 19 = .ok (.iload_n 1, 1) := by decide +kernel
theorem dX7_ageGroup_20 : decode cX7_ageGroup 20 = .ok (.iaload, 1) := by decide +kernel
theorem dX7_ageGroup_21 : decode cX7_ageGroup 21 = .ok (.bipush 36, 2) := by decide +kernel
theorem dX7_ageGroup_23 : decode cX7_ageGroup 23 = .ok (.if_icmp .ge 7, 3) := by decide +kernel
theorem dX7_ageGroup_26 : decode cX7_ageGroup 26 = .ok (.iconst 1, 1) := by decide +kernel
theorem dX7_ageGroup_27 : decode cX7_ageGroup 27 = .ok (.goto 4, 3) := by decide +kernel
theorem dX7_ageGroup_30 : decode cX7_ageGroup 30 = .ok (.iconst 2, 1) := by decide +kernel
theorem dX7_ageGroup_31 : decode cX7_ageGroup 31 = .ok (.ireturn, 1) := by decide +kernel
theorem dX7_presentOf_0 : decode cX7_presentOf 0 = .ok (.iconst 0, 1) := by decide +kernel
theorem dX7_presentOf_1 : decode cX7_presentOf 1 = .ok (.istore 4, 2) := by decide +kernel
theorem dX7_presentOf_3 : decode cX7_presentOf 3 = .ok (.iconst 0, 1) := by decide +kernel
theorem dX7_presentOf_4 : decode cX7_presentOf 4 = .ok (.istore 5, 2) := by decide +kernel
theorem dX7_presentOf_6 : decode cX7_presentOf 6 = .ok (.iload 5, 2) := by decide +kernel
theorem dX7_presentOf_8 : decode cX7_presentOf 8 = .ok (.bipush 24, 2) := by decide +kernel
theorem dX7_presentOf_10 : decode cX7_presentOf 10 = .ok (.if_icmp .ge 55, 3) := by decide +kernel
theorem dX7_presentOf_13 : decode cX7_presentOf 13 = .ok (.iload 4, 2) := by decide +kernel
theorem dX7_presentOf_15 : decode cX7_presentOf 15 = .ok (.aload_n 0, 1) := by decide +kernel
theorem dX7_presentOf_16 : decode cX7_presentOf 16 = .ok (.iload 5, 2) := by decide +kernel
theorem dX7_presentOf_18 : decode cX7_presentOf 18 = .ok (.invokevirtual 93, 3) := by decide +kernel
theorem dX7_presentOf_21 : decode cX7_presentOf 21 = .ok (.ifCond .eq 34, 3) := by decide +kernel
theorem dX7_presentOf_24 : decode cX7_presentOf 24 = .ok (.aload_n 0, 1) := by decide +kernel
theorem dX7_presentOf_25 : decode cX7_presentOf 25 = .ok (.iload 5, 2) := by decide +kernel
theorem dX7_presentOf_27 : decode cX7_presentOf 27 = .ok (.iload_n 1, 1) := by decide +kernel
theorem dX7_presentOf_28 : decode cX7_presentOf 28 = .ok (.iload_n 2, 1) := by decide +kernel
theorem dX7_presentOf_29 : decode cX7_presentOf 29 = .ok (.invokevirtual 96, 3) := by decide +kernel
theorem dX7_presentOf_32 : decode cX7_presentOf 32 = .ok (.ifCond .eq 23, 3) := by decide +kernel
theorem dX7_presentOf_35 : decode cX7_presentOf 35 = .ok (.iload_n 3, 1) := by decide +kernel
theorem dX7_presentOf_36 : decode cX7_presentOf 36 = .ok (.bipush (-9), 2) := by decide +kernel
theorem dX7_presentOf_38 : decode cX7_presentOf 38 = .ok (.if_icmp .eq 13, 3) := by decide +kernel
theorem dX7_presentOf_41 : decode cX7_presentOf 41 = .ok (.aload_n 0, 1) := by decide +kernel
theorem dX7_presentOf_42 : decode cX7_presentOf 42 = .ok (.iload 5, 2) := by decide +kernel
theorem dX7_presentOf_44 : decode cX7_presentOf 44 = .ok (.invokevirtual 99, 3) := by decide +kernel
theorem dX7_presentOf_47 : decode cX7_presentOf 47 = .ok (.iload_n 3, 1) := by decide +kernel
theorem dX7_presentOf_48 : decode cX7_presentOf 48 = .ok (.if_icmp .ne 7, 3) := by decide +kernel
theorem dX7_presentOf_51 : decode cX7_presentOf 51 = .ok (.iconst 1, 1) := by decide +kernel
theorem dX7_presentOf_52 : decode cX7_presentOf 52 = .ok (.goto 4, 3) := by decide +kernel
theorem dX7_presentOf_55 : decode cX7_presentOf 55 = .ok (.iconst 0, 1) := by decide +kernel
theorem dX7_presentOf_56 : decode cX7_presentOf 56 = .ok (.iadd, 1) := by decide +kernel
theorem dX7_presentOf_57 : decode cX7_presentOf 57 = .ok (.istore 4, 2) := by decide +kernel
theorem dX7_presentOf_59 : decode cX7_presentOf 59 = .ok (.iinc 5 1, 3) := by decide +kernel
theorem dX7_presentOf_62 : decode cX7_presentOf 62 = .ok (.goto (-56), 3) := by decide +kernel
theorem dX7_presentOf_65 : decode cX7_presentOf 65 = .ok (.iload 4, 2) := by decide +kernel
theorem dX7_presentOf_67 : decode cX7_presentOf 67 = .ok (.ireturn, 1) := by decide +kernel
theorem dX7_needOf_0 : decode cX7_needOf 0 = .ok (.iconst 0, 1) := by decide +kernel
theorem dX7_needOf_1 : decode cX7_needOf 1 = .ok (.istore 4, 2) := by decide +kernel
theorem dX7_needOf_3 : decode cX7_needOf 3 = .ok (.aload_n 0, 1) := by decide +kernel
theorem dX7_needOf_4 : decode cX7_needOf 4 = .ok (.getfield 43, 3) := by decide +kernel
theorem dX7_needOf_7 : decode cX7_needOf 7 = .ok (.iconst 0, 1) := by decide +kernel
theorem dX7_needOf_8 : decode cX7_needOf 8 = .ok (.iaload, 1) := by decide +kernel
theorem dX7_needOf_9 : decode cX7_needOf 9 = .ok (.aload_n 0, 1) := by decide +kernel
theorem dX7_needOf_10 : decode cX7_needOf 10 = .ok (.getfield 43, 3) := by decide +kernel
theorem dX7_needOf_13 : decode cX7_needOf 13 = .ok (.iconst 1, 1) := by decide +kernel
theorem dX7_needOf_14 : decode cX7_needOf 14 = .ok (.iaload, 1) := by decide +kernel
theorem dX7_needOf_15 : decode cX7_needOf 15 = .ok (.imul, 1) := by decide +kernel
theorem dX7_needOf_16 : decode cX7_needOf 16 = .ok (.aload_n 0, 1) := by decide +kernel
theorem dX7_needOf_17 : decode cX7_needOf 17 = .ok (.getfield 43, 3) := by decide +kernel
theorem dX7_needOf_20 : decode cX7_needOf 20 = .ok (.iconst 2, 1) := by decide +kernel
theorem dX7_needOf_21 : decode cX7_needOf 21 = .ok (.iaload, 1) := by decide +kernel
theorem dX7_needOf_22 : decode cX7_needOf 22 = .ok (.imul, 1) := by decide +kernel
theorem dX7_needOf_23 : decode cX7_needOf 23 = .ok (.istore 5, 2) := by decide +kernel
theorem dX7_needOf_25 : decode cX7_needOf 25 = .ok (.iconst 0, 1) := by decide +kernel
theorem dX7_needOf_26 : decode cX7_needOf 26 = .ok (.istore 6, 2) := by decide +kernel
theorem dX7_needOf_28 : decode cX7_needOf 28 = .ok (.iload 6, 2) := by decide +kernel
theorem dX7_needOf_30 : decode cX7_needOf 30 = .ok (.iconst 3, 1) := by decide +kernel
theorem dX7_needOf_31 : decode cX7_needOf 31 = .ok (.if_icmp .ge 59, 3) := by decide +kernel
theorem dX7_needOf_34 : decode cX7_needOf 34 = .ok (.aload_n 0, 1) := by decide +kernel
theorem dX7_needOf_35 : decode cX7_needOf 35 = .ok (.iload_n 1, 1) := by decide +kernel
theorem dX7_needOf_36 : decode cX7_needOf 36 = .ok (.iload_n 2, 1) := by decide +kernel
theorem dX7_needOf_37 : decode cX7_needOf 37 = .ok (.iload 6, 2) := by decide +kernel
theorem dX7_needOf_39 : decode cX7_needOf 39 = .ok (.invokevirtual 102, 3) := by decide +kernel
theorem dX7_needOf_42 : decode cX7_needOf 42 = .ok (.iload_n 3, 1) := by decide +kernel
theorem dX7_needOf_43 : decode cX7_needOf 43 = .ok (.bipush (-9), 2) := by decide +kernel
theorem dX7_needOf_45 : decode cX7_needOf 45 = .ok (.if_icmp .eq 17, 3) := by decide +kernel
theorem dX7_needOf_48 : decode cX7_needOf 48 = .ok (.aload_n 0, 1) := by decide +kernel
theorem dX7_needOf_49 : decode cX7_needOf 49 = .ok (.iload_n 3, 1) := by decide +kernel
theorem dX7_needOf_50 : decode cX7_needOf 50 = .ok (.invokevirtual 99, 3) := by decide +kernel
theorem dX7_needOf_53 : decode cX7_needOf 53 = .ok (.iload 6, 2) := by decide +kernel
theorem dX7_needOf_55 : decode cX7_needOf 55 = .ok (.if_icmp .ne 7, 3) := by decide +kernel
theorem dX7_needOf_58 : decode cX7_needOf 58 = .ok (.iconst 1, 1) := by decide +kernel
theorem dX7_needOf_59 : decode cX7_needOf 59 = .ok (.goto 4, 3) := by decide +kernel
theorem dX7_needOf_62 : decode cX7_needOf 62 = .ok (.iconst 0, 1) := by decide +kernel
theorem dX7_needOf_63 : decode cX7_needOf 63 = .ok (.iadd, 1) := by decide +kernel
theorem dX7_needOf_64 : decode cX7_needOf 64 = .ok (.istore 7, 2) := by decide +kernel
theorem dX7_needOf_66 : decode cX7_needOf 66 = .ok (.iload 4, 2) := by decide +kernel
theorem dX7_needOf_68 : decode cX7_needOf 68 = .ok (.iload 7, 2) := by decide +kernel
theorem dX7_needOf_70 : decode cX7_needOf 70 = .ok (.iload 5, 2) := by decide +kernel
theorem dX7_needOf_72 : decode cX7_needOf 72 = .ok (.aload_n 0, 1) := by decide +kernel
theorem dX7_needOf_73 : decode cX7_needOf 73 = .ok (.getfield 43, 3) := by decide +kernel
theorem dX7_needOf_76 : decode cX7_needOf 76 = .ok (.iload 6, 2) := by decide +kernel
theorem dX7_needOf_78 : decode cX7_needOf 78 = .ok (.iaload, 1) := by decide +kernel
theorem dX7_needOf_79 : decode cX7_needOf 79 = .ok (.idiv, 1) := by decide +kernel
theorem dX7_needOf_80 : decode cX7_needOf 80 = .ok (.imul, 1) := by decide +kernel
theorem dX7_needOf_81 : decode cX7_needOf 81 = .ok (.iadd, 1) := by decide +kernel
theorem dX7_needOf_82 : decode cX7_needOf 82 = .ok (.istore 4, 2) := by decide +kernel
theorem dX7_needOf_84 : decode cX7_needOf 84 = .ok (.iinc 6 1, 3) := by decide +kernel
theorem dX7_needOf_87 : decode cX7_needOf 87 = .ok (.goto (-59), 3) := by decide +kernel
theorem dX7_needOf_90 : decode cX7_needOf 90 = .ok (.iload 4, 2) := by decide +kernel
theorem dX7_needOf_92 : decode cX7_needOf 92 = .ok (.iload 5, 2) := by decide +kernel
theorem dX7_needOf_94 : decode cX7_needOf 94 = .ok (.iadd, 1) := by decide +kernel
theorem dX7_needOf_95 : decode cX7_needOf 95 = .ok (.iconst 1, 1) := by decide +kernel
theorem dX7_needOf_96 : decode cX7_needOf 96 = .ok (.isub, 1) := by decide +kernel
theorem dX7_needOf_97 : decode cX7_needOf 97 = .ok (.iload 5, 2) := by decide +kernel
theorem dX7_needOf_99 : decode cX7_needOf 99 = .ok (.idiv, 1) := by decide +kernel
theorem dX7_needOf_100 : decode cX7_needOf 100 = .ok (.ireturn, 1) := by decide +kernel
theorem dX7_staffOf_0 : decode cX7_staffOf 0 = .ok (.iconst 0, 1) := by decide +kernel
theorem dX7_staffOf_1 : decode cX7_staffOf 1 = .ok (.istore_n 3, 1) := by decide +kernel
theorem dX7_staffOf_2 : decode cX7_staffOf 2 = .ok (.iconst 0, 1) := by decide +kernel
theorem dX7_staffOf_3 : decode cX7_staffOf 3 = .ok (.istore 4, 2) := by decide +kernel
theorem dX7_staffOf_5 : decode cX7_staffOf 5 = .ok (.iload 4, 2) := by decide +kernel
theorem dX7_staffOf_7 : decode cX7_staffOf 7 = .ok (.bipush 8, 2) := by decide +kernel
theorem dX7_staffOf_9 : decode cX7_staffOf 9 = .ok (.if_icmp .ge 59, 3) := by decide +kernel
theorem dX7_staffOf_12 : decode cX7_staffOf 12 = .ok (.iload_n 3, 1) := by decide +kernel
theorem dX7_staffOf_13 : decode cX7_staffOf 13 = .ok (.aload_n 0, 1) := by decide +kernel
theorem dX7_staffOf_14 : decode cX7_staffOf 14 = .ok (.getfield 31, 3) := by decide +kernel
theorem dX7_staffOf_17 : decode cX7_staffOf 17 = .ok (.iload 4, 2) := by decide +kernel
theorem dX7_staffOf_19 : decode cX7_staffOf 19 = .ok (.iaload, 1) := by decide +kernel
theorem dX7_staffOf_20 : decode cX7_staffOf 20 = .ok (.iconst 1, 1) := by decide +kernel
theorem dX7_staffOf_21 : decode cX7_staffOf 21 = .ok (.if_icmp .ne 38, 3) := by decide +kernel
theorem dX7_staffOf_24 : decode cX7_staffOf 24 = .ok (.iload_n 2, 1) := by decide +kernel
theorem dX7_staffOf_25 : decode cX7_staffOf 25 = .ok (.aload_n 0, 1) := by decide +kernel
theorem dX7_staffOf_26 : decode cX7_staffOf 26 = .ok (.getfield 34, 3) := by decide +kernel
theorem dX7_staffOf_29 : decode cX7_staffOf 29 = .ok (.iconst 5, 1) := by decide +kernel
theorem dX7_staffOf_30 : decode cX7_staffOf 30 = .ok (.iload 4, 2) := by decide +kernel
theorem dX7_staffOf_32 : decode cX7_staffOf 32 = .ok (.imul, 1) := by decide +kernel
theorem dX7_staffOf_33 : decode cX7_staffOf 33 = .ok (.iload_n 1, 1) := by decide +kernel
theorem dX7_staffOf_34 : decode cX7_staffOf 34 = .ok (.iadd, 1) := by decide +kernel
theorem dX7_staffOf_35 : decode cX7_staffOf 35 = .ok (.iaload, 1) := by decide +kernel
theorem dX7_staffOf_36 : decode cX7_staffOf 36 = .ok (.aload_n 0, 1) := by decide +kernel
theorem dX7_staffOf_37 : decode cX7_staffOf 37 = .ok (.getfield 37, 3) := by decide +kernel
theorem dX7_staffOf_40 : decode cX7_staffOf 40 = .ok (.iconst 5, 1) := by decide +kernel
theorem dX7_staffOf_41 : decode cX7_staffOf 41 = .ok (.iload 4, 2) := by decide +kernel
theorem dX7_staffOf_43 : decode cX7_staffOf 43 = .ok (.imul, 1) := by decide +kernel
theorem dX7_staffOf_44 : decode cX7_staffOf 44 = .ok (.iload_n 1, 1) := by decide +kernel
theorem dX7_staffOf_45 : decode cX7_staffOf 45 = .ok (.iadd, 1) := by decide +kernel
theorem dX7_staffOf_46 : decode cX7_staffOf 46 = .ok (.iaload, 1) := by decide +kernel
theorem dX7_staffOf_47 : decode cX7_staffOf 47 = .ok (.iconst 1, 1) := by decide +kernel
theorem dX7_staffOf_48 : decode cX7_staffOf 48 = .ok (.isub, 1) := by decide +kernel
theorem dX7_staffOf_49 : decode cX7_staffOf 49 = .ok (.invokestatic 77, 3) := by decide +kernel
theorem dX7_staffOf_52 : decode cX7_staffOf 52 = .ok (.ifCond .eq 7, 3) := by decide +kernel
theorem dX7_staffOf_55 : decode cX7_staffOf 55 = .ok (.iconst 1, 1) := by decide +kernel
theorem dX7_staffOf_56 : decode cX7_staffOf 56 = .ok (.goto 4, 3) := by decide +kernel
theorem dX7_staffOf_59 : decode cX7_staffOf 59 = .ok (.iconst 0, 1) := by decide +kernel
theorem dX7_staffOf_60 : decode cX7_staffOf 60 = .ok (.iadd, 1) := by decide +kernel
theorem dX7_staffOf_61 : decode cX7_staffOf 61 = .ok (.istore_n 3, 1) := by decide +kernel
theorem dX7_staffOf_62 : decode cX7_staffOf 62 = .ok (.iinc 4 1, 3) := by decide +kernel
theorem dX7_staffOf_65 : decode cX7_staffOf 65 = .ok (.goto (-60), 3) := by decide +kernel
theorem dX7_staffOf_68 : decode cX7_staffOf 68 = .ok (.iload_n 3, 1) := by decide +kernel
theorem dX7_staffOf_69 : decode cX7_staffOf 69 = .ok (.ireturn, 1) := by decide +kernel
theorem dX7_isSafe_0 : decode cX7_isSafe 0 = .ok (.aload_n 0, 1) := by decide +kernel
theorem dX7_isSafe_1 : decode cX7_isSafe 1 = .ok (.iload_n 1, 1) := by decide +kernel
theorem dX7_isSafe_2 : decode cX7_isSafe 2 = .ok (.iload_n 2, 1) := by decide +kernel
theorem dX7_isSafe_3 : decode cX7_isSafe 3 = .ok (.bipush (-9), 2) := by decide +kernel
theorem dX7_isSafe_5 : decode cX7_isSafe 5 = .ok (.invokevirtual 102, 3) := by decide +kernel
theorem dX7_isSafe_8 : decode cX7_isSafe 8 = .ok (.iload_n 3, 1) := by decide +kernel
theorem dX7_isSafe_9 : decode cX7_isSafe 9 = .ok (.bipush (-9), 2) := by decide +kernel
theorem dX7_isSafe_11 : decode cX7_isSafe 11 = .ok (.if_icmp .ne 7, 3) := by decide +kernel
theorem dX7_isSafe_14 : decode cX7_isSafe 14 = .ok (.iconst 0, 1) := by decide +kernel
theorem dX7_isSafe_15 : decode cX7_isSafe 15 = .ok (.goto 4, 3) := by decide +kernel
theorem dX7_isSafe_18 : decode cX7_isSafe 18 = .ok (.iconst 1, 1) := by decide +kernel
theorem dX7_isSafe_19 : decode cX7_isSafe 19 = .ok (.iadd, 1) := by decide +kernel
theorem dX7_isSafe_20 : decode cX7_isSafe 20 = .ok (.istore 4, 2) := by decide +kernel
theorem dX7_isSafe_22 : decode cX7_isSafe 22 = .ok (.iload 4, 2) := by decide +kernel
theorem dX7_isSafe_24 : decode cX7_isSafe 24 = .ok (.aload_n 0, 1) := by decide +kernel
theorem dX7_isSafe_25 : decode cX7_isSafe 25 = .ok (.getfield 49, 3) := by decide +kernel
theorem dX7_isSafe_28 : decode cX7_isSafe 28 = .ok (.if_icmp .gt 23, 3) := by decide +kernel
theorem dX7_isSafe_31 : decode cX7_isSafe 31 = .ok (.aload_n 0, 1) := by decide +kernel
theorem dX7_isSafe_32 : decode cX7_isSafe 32 = .ok (.iload_n 1, 1) := by decide +kernel
theorem dX7_isSafe_33 : decode cX7_isSafe 33 = .ok (.iload_n 2, 1) := by decide +kernel
theorem dX7_isSafe_34 : decode cX7_isSafe 34 = .ok (.iload_n 3, 1) := by decide +kernel
theorem dX7_isSafe_35 : decode cX7_isSafe 35 = .ok (.invokevirtual 106, 3) := by decide +kernel
theorem dX7_isSafe_38 : decode cX7_isSafe 38 = .ok (.aload_n 0, 1) := by decide +kernel
theorem dX7_isSafe_39 : decode cX7_isSafe 39 = .ok (.iload_n 1, 1) := by decide +kernel
theorem dX7_isSafe_40 : decode cX7_isSafe 40 = .ok (.iload_n 2, 1) := by decide +kernel
theorem dX7_isSafe_41 : decode cX7_isSafe 41 = .ok (.invokevirtual 109, 3) := by decide +kernel
theorem dX7_isSafe_44 : decode cX7_isSafe 44 = .ok (.if_icmp .gt 7, 3) := by decide +kernel
theorem dX7_isSafe_47 : decode cX7_isSafe 47 = .ok (.iconst 1, 1) := by decide +kernel
theorem dX7_isSafe_48 : decode cX7_isSafe 48 = .ok (.goto 4, 3) := by decide +kernel
theorem dX7_isSafe_51 : decode cX7_isSafe 51 = .ok (.iconst 0, 1) := by decide +kernel
theorem dX7_isSafe_52 : decode cX7_isSafe 52 = .ok (.ireturn, 1) := by decide +kernel
theorem dX7_canHave_0 : decode cX7_canHave 0 = .ok (.iconst 1, 1) := by decide +kernel
theorem dX7_canHave_1 : decode cX7_canHave 1 = .ok (.istore 5, 2) := by decide +kernel
theorem dX7_canHave_3 : decode cX7_canHave 3 = .ok (.iload_n 3, 1) := by decide +kernel
theorem dX7_canHave_4 : decode cX7_canHave 4 = .ok (.istore 6, 2) := by decide +kernel
theorem dX7_canHave_6 : decode cX7_canHave 6 = .ok (.iload 6, 2) := by decide +kernel
theorem dX7_canHave_8 : decode cX7_canHave 8 = .ok (.iload 4, 2) := by decide +kernel
theorem dX7_canHave_10 : decode cX7_canHave 10 = .ok (.if_icmp .ge 43, 3) := by decide +kernel
theorem dX7_canHave_13 : decode cX7_canHave 13 = .ok (.iload 5, 2) := by decide +kernel
theorem dX7_canHave_15 : decode cX7_canHave 15 = .ok (.ifCond .eq 29, 3) := by decide +kernel
theorem dX7_canHave_18 : decode cX7_canHave 18 = .ok (.aload_n 0, 1) := by decide +kernel
theorem dX7_canHave_19 : decode cX7_canHave 19 = .ok (.iload_n 1, 1) := by decide +kernel
theorem dX7_canHave_20 : decode cX7_canHave 20 = .ok (.iload_n 2, 1) := by decide +kernel
theorem dX7_canHave_21 : decode cX7_canHave 21 = .ok (.iload 6, 2) := by decide +kernel
theorem dX7_canHave_23 : decode cX7_canHave 23 = .ok (.invokevirtual 96, 3) := by decide +kernel
theorem dX7_canHave_26 : decode cX7_canHave 26 = .ok (.ifCond .ne 14, 3) := by decide +kernel
theorem dX7_canHave_29 : decode cX7_canHave 29 = .ok (.aload_n 0, 1) := by decide +kernel
theorem dX7_canHave_30 : decode cX7_canHave 30 = .ok (.iload_n 2, 1) := by decide +kernel
theorem dX7_canHave_31 : decode cX7_canHave 31 = .ok (.iload 6, 2) := by decide +kernel
theorem dX7_canHave_33 : decode cX7_canHave 33 = .ok (.iload_n 1, 1) := by decide +kernel
theorem dX7_canHave_34 : decode cX7_canHave 34 = .ok (.invokevirtual 113, 3) := by decide +kernel
theorem dX7_canHave_37 : decode cX7_canHave 37 = .ok (.ifCond .eq 7, 3) := by decide +kernel
theorem dX7_canHave_40 : decode cX7_canHave 40 = .ok (.iconst 1, 1) := by decide +kernel
theorem dX7_canHave_41 : decode cX7_canHave 41 = .ok (.goto 4, 3) := by decide +kernel
theorem dX7_canHave_44 : decode cX7_canHave 44 = .ok (.iconst 0, 1) := by decide +kernel
theorem dX7_canHave_45 : decode cX7_canHave 45 = .ok (.istore 5, 2) := by decide +kernel
theorem dX7_canHave_47 : decode cX7_canHave 47 = .ok (.iinc 6 1, 3) := by decide +kernel
theorem dX7_canHave_50 : decode cX7_canHave 50 = .ok (.goto (-44), 3) := by decide +kernel
theorem dX7_canHave_53 : decode cX7_canHave 53 = .ok (.iload 5, 2) := by decide +kernel
theorem dX7_canHave_55 : decode cX7_canHave 55 = .ok (.ireturn, 1) := by decide +kernel
theorem dX7_book_0 : decode cX7_book 0 = .ok (.aload_n 0, 1) := by decide +kernel
theorem dX7_book_1 : decode cX7_book 1 = .ok (.iload_n 1, 1) := by decide +kernel
theorem dX7_book_2 : decode cX7_book 2 = .ok (.invokevirtual 85, 3) := by decide +kernel
theorem dX7_book_5 : decode cX7_book 5 = .ok (.ifCond .eq 19, 3) := by decide +kernel
theorem dX7_book_8 : decode cX7_book 8 = .ok (.iload_n 2, 1) := by decide +kernel
theorem dX7_book_9 : decode cX7_book 9 = .ok (.invokestatic 116, 3) := by decide +kernel
theorem dX7_book_12 : decode cX7_book 12 = .ok (.ifCond .eq 12, 3) := by decide +kernel
theorem dX7_book_15 : decode cX7_book 15 = .ok (.iload_n 3, 1) := by decide +kernel
theorem dX7_book_16 : decode cX7_book 16 = .ok (.iload 4, 2) := by decide +kernel
theorem dX7_book_18 : decode cX7_book 18 = .ok (.invokestatic 119, 3) := by decide +kernel
theorem dX7_book_21 : decode cX7_book 21 = .ok (.ifCond .ne 5, 3) := by decide +kernel
theorem dX7_book_24 : decode cX7_book 24 = .ok (.iconst (-1), 1) := by decide +kernel
theorem dX7_book_25 : decode cX7_book 25 = .ok (.ireturn, 1) := by decide +kernel
theorem dX7_book_26 : decode cX7_book 26 = .ok (.aload_n 0, 1) := by decide +kernel
theorem dX7_book_27 : decode cX7_book 27 = .ok (.getfield 19, 3) := by decide +kernel
theorem dX7_book_30 : decode cX7_book 30 = .ok (.iload_n 1, 1) := by decide +kernel
theorem dX7_book_31 : decode cX7_book 31 = .ok (.iaload, 1) := by decide +kernel
theorem dX7_book_32 : decode cX7_book 32 = .ok (.iconst 1, 1) := by decide +kernel
theorem dX7_book_33 : decode cX7_book 33 = .ok (.if_icmp .ne 18, 3) := by decide +kernel
theorem dX7_book_36 : decode cX7_book 36 = .ok (.aload_n 0, 1) := by decide +kernel
theorem dX7_book_37 : decode cX7_book 37 = .ok (.iload_n 1, 1) := by decide +kernel
theorem dX7_book_38 : decode cX7_book 38 = .ok (.iload_n 2, 1) := by decide +kernel
theorem dX7_book_39 : decode cX7_book 39 = .ok (.iload_n 3, 1) := by decide +kernel
theorem dX7_book_40 : decode cX7_book 40 = .ok (.iload 4, 2) := by decide +kernel
theorem dX7_book_42 : decode cX7_book 42 = .ok (.invokevirtual 123, 3) := by decide +kernel
theorem dX7_book_45 : decode cX7_book 45 = .ok (.ifCond .ne 6, 3) := by decide +kernel
theorem dX7_book_48 : decode cX7_book 48 = .ok (.bipush (-3), 2) := by decide +kernel
theorem dX7_book_50 : decode cX7_book 50 = .ok (.ireturn, 1) := by decide +kernel
theorem dX7_book_51 : decode cX7_book 51 = .ok (.aload_n 0, 1) := by decide +kernel
theorem dX7_book_52 : decode cX7_book 52 = .ok (.getfield 25, 3) := by decide +kernel
theorem dX7_book_55 : decode cX7_book 55 = .ok (.iconst 5, 1) := by decide +kernel
theorem dX7_book_56 : decode cX7_book 56 = .ok (.iload_n 1, 1) := by decide +kernel
theorem dX7_book_57 : decode cX7_book 57 = .ok (.imul, 1) := by decide +kernel
theorem dX7_book_58 : decode cX7_book 58 = .ok (.iload_n 2, 1) := by decide +kernel
theorem dX7_book_59 : decode cX7_book 59 = .ok (.iadd, 1) := by decide +kernel
theorem dX7_book_60 : decode cX7_book 60 = .ok (.iload_n 3, 1) := by decide +kernel
theorem dX7_book_61 : decode cX7_book 61 = .ok (.iastore, 1) := by decide +kernel
theorem dX7_book_62 : decode cX7_book 62 = .ok (.aload_n 0, 1) := by decide +kernel
theorem dX7_book_63 : decode cX7_book 63 = .ok (.getfield 28, 3) := by decide +kernel
theorem dX7_book_66 : decode cX7_book 66 = .ok (.iconst 5, 1) := by decide +kernel
theorem dX7_book_67 : decode cX7_book 67 = .ok (.iload_n 1, 1) := by decide +kernel
theorem dX7_book_68 : decode cX7_book 68 = .ok (.imul, 1) := by decide +kernel
theorem dX7_book_69 : decode cX7_book 69 = .ok (.iload_n 2, 1) := by decide +kernel
theorem dX7_book_70 : decode cX7_book 70 = .ok (.iadd, 1) := by decide +kernel
theorem dX7_book_71 : decode cX7_book 71 = .ok (.iload 4, 2) := by decide +kernel
theorem dX7_book_73 : decode cX7_book 73 = .ok (.iastore, 1) := by decide +kernel
theorem dX7_book_74 : decode cX7_book 74 = .ok (.aload_n 0, 1) := by decide +kernel
theorem dX7_book_75 : decode cX7_book 75 = .ok (.iload_n 1, 1) := by decide +kernel
theorem dX7_book_76 : decode cX7_book 76 = .ok (.invokevirtual 89, 3) := by decide +kernel
theorem dX7_book_79 : decode cX7_book 79 = .ok (.ireturn, 1) := by decide +kernel
theorem dX7_nextMonth_0 : decode cX7_nextMonth 0 = .ok (.aload_n 0, 1) := by decide +kernel
theorem dX7_nextMonth_1 : decode cX7_nextMonth 1 = .ok (.dup, 1) := by decide +kernel
theorem dX7_nextMonth_2 : decode cX7_nextMonth 2 = .ok (.getfield 127, 3) := by decide +kernel
theorem dX7_nextMonth_5 : decode cX7_nextMonth 5 = .ok (.iconst 1, 1) := by decide +kernel
theorem dX7_nextMonth_6 : decode cX7_nextMonth 6 = .ok (.iadd, 1) := by decide +kernel
theorem dX7_nextMonth_7 : decode cX7_nextMonth 7 = .ok (.putfield 127, 3) := by decide +kernel
theorem dX7_nextMonth_10 : decode cX7_nextMonth 10 = .ok (.iconst 0, 1) := by decide +kernel
theorem dX7_nextMonth_11 : decode cX7_nextMonth 11 = .ok (.istore_n 1, 1) := by decide +kernel
theorem dX7_nextMonth_12 : decode cX7_nextMonth 12 = .ok (.iload_n 1, 1) := by decide +kernel
theorem dX7_nextMonth_13 : decode cX7_nextMonth 13 = .ok (.bipush 24, 2) := by decide +kernel
theorem dX7_nextMonth_15 : decode cX7_nextMonth 15 = .ok (.if_icmp .ge 75, 3) := by decide +kernel
theorem dX7_nextMonth_18 : decode cX7_nextMonth 18 = .ok (.aload_n 0, 1) := by decide +kernel
theorem dX7_nextMonth_19 : decode cX7_nextMonth 19 = .ok (.getfield 7, 3) := by decide +kernel
theorem dX7_nextMonth_22 : decode cX7_nextMonth 22 = .ok (.iload_n 1, 1) := by decide +kernel
theorem dX7_nextMonth_23 : decode cX7_nextMonth 23 = .ok (.iaload, 1) := by decide +kernel
theorem dX7_nextMonth_24 : decode cX7_nextMonth 24 = .ok (.iconst 1, 1) := by decide +kernel
theorem dX7_nextMonth_25 : decode cX7_nextMonth 25 = .ok (.if_icmp .ne 59, 3) := by decide +kernel
theorem dX7_nextMonth_28 : decode cX7_nextMonth 28 = .ok (.aload_n 0, 1) := by decide +kernel
theorem dX7_nextMonth_29 : decode cX7_nextMonth 29 = .ok (.getfield 13, 3) := by decide +kernel
theorem dX7_nextMonth_32 : decode cX7_nextMonth 32 = .ok (.iload_n 1, 1) := by decide +kernel
theorem dX7_nextMonth_33 : decode cX7_nextMonth 33 = .ok (.dup2, 1) := by decide +kernel
theorem dX7_nextMonth_34 : decode cX7_nextMonth 34 = .ok (.iaload, 1) := by decide +kernel
theorem dX7_nextMonth_35 : decode cX7_nextMonth 35 = .ok (.iconst 1, 1) := by decide +kernel
theorem dX7_nextMonth_36 : decode cX7_nextMonth 36 = .ok (.iadd, 1) := by decide +kernel
theorem dX7_nextMonth_37 : decode cX7_nextMonth 37 = .ok (.iastore, 1) := by decide +kernel
theorem dX7_nextMonth_38 : decode cX7_nextMonth 38 = .ok (.aload_n 0, 1) := by decide +kernel
theorem dX7_nextMonth_39 : decode cX7_nextMonth 39 = .ok (.getfield 22, 3) := by decide +kernel
theorem dX7_nextMonth_42 : decode cX7_nextMonth 42 = .ok (.iload_n 1, 1) := by decide +kernel
theorem dX7_nextMonth_43 : decode cX7_nextMonth 43 = .ok (.dup2, 1) := by decide +kernel
theorem dX7_nextMonth_44 : decode cX7_nextMonth 44 = .ok (.iaload, 1) := by decide +kernel
theorem dX7_nextMonth_45 : decode cX7_nextMonth 45 = .ok (.aload_n 0, 1) := by decide +kernel
theorem dX7_nextMonth_46 : decode cX7_nextMonth 46 = .ok (.getfield 19, 3) := by decide +kernel
theorem dX7_nextMonth_49 : decode cX7_nextMonth 49 = .ok (.iload_n 1, 1) := by decide +kernel
theorem dX7_nextMonth_50 : decode cX7_nextMonth 50 = .ok (.iaload, 1) := by decide +kernel
theorem dX7_nextMonth_51 : decode cX7_nextMonth 51 = .ok (.iconst 1, 1) := by decide +kernel
theorem dX7_nextMonth_52 : decode cX7_nextMonth 52 = .ok (.if_icmp .ne 7, 3) := by decide +kernel
theorem dX7_nextMonth_55 : decode cX7_nextMonth 55 = .ok (.iconst 0, 1) := by decide +kernel
theorem dX7_nextMonth_56 : decode cX7_nextMonth 56 = .ok (.goto 4, 3) := by decide +kernel
theorem dX7_nextMonth_59 : decode cX7_nextMonth 59 = .ok (.iconst 1, 1) := by decide +kernel
theorem dX7_nextMonth_60 : decode cX7_nextMonth 60 = .ok (.iadd, 1) := by decide +kernel
theorem dX7_nextMonth_61 : decode cX7_nextMonth 61 = .ok (.iastore, 1) := by decide +kernel
theorem dX7_nextMonth_62 : decode cX7_nextMonth 62 = .ok (.aload_n 0, 1) := by decide +kernel
theorem dX7_nextMonth_63 : decode cX7_nextMonth 63 = .ok (.getfield 7, 3) := by decide +kernel
theorem dX7_nextMonth_66 : decode cX7_nextMonth 66 = .ok (.iload_n 1, 1) := by decide +kernel
theorem dX7_nextMonth_67 : decode cX7_nextMonth 67 = .ok (.aload_n 0, 1) := by decide +kernel
theorem dX7_nextMonth_68 : decode cX7_nextMonth 68 = .ok (.getfield 13, 3) := by decide +kernel
theorem dX7_nextMonth_71 : decode cX7_nextMonth 71 = .ok (.iload_n 1, 1) := by decide +kernel
theorem dX7_nextMonth_72 : decode cX7_nextMonth 72 = .ok (.iaload, 1) := by decide +kernel
theorem dX7_nextMonth_73 : decode cX7_nextMonth 73 = .ok (.bipush 78, 2) := by decide +kernel
theorem dX7_nextMonth_75 : decode cX7_nextMonth 75 = .ok (.if_icmp .ne 7, 3) := by decide +kernel
theorem dX7_nextMonth_78 : decode cX7_nextMonth 78 = .ok (.iconst 0, 1) := by decide +kernel
theorem dX7_nextMonth_79 : decode cX7_nextMonth 79 = .ok (.goto 4, 3) := by decide +kernel
theorem dX7_nextMonth_82 : decode cX7_nextMonth 82 = .ok (.iconst 1, 1) := by decide +kernel
theorem dX7_nextMonth_83 : decode cX7_nextMonth 83 = .ok (.iastore, 1) := by decide +kernel
theorem dX7_nextMonth_84 : decode cX7_nextMonth 84 = .ok (.iinc 1 1, 3) := by decide +kernel
theorem dX7_nextMonth_87 : decode cX7_nextMonth 87 = .ok (.goto (-75), 3) := by decide +kernel
theorem dX7_nextMonth_90 : decode cX7_nextMonth 90 = .ok (.aload_n 0, 1) := by decide +kernel
theorem dX7_nextMonth_91 : decode cX7_nextMonth 91 = .ok (.getfield 127, 3) := by decide +kernel
theorem dX7_nextMonth_94 : decode cX7_nextMonth 94 = .ok (.ireturn, 1) := by decide +kernel
theorem dX7_isWaiting_0 : decode cX7_isWaiting 0 = .ok (.aload_n 0, 1) := by decide +kernel
theorem dX7_isWaiting_1 : decode cX7_isWaiting 1 = .ok (.getfield 7, 3) := by decide +kernel
theorem dX7_isWaiting_4 : decode cX7_isWaiting 4 = .ok (.iload_n 1, 1) := by decide +kernel
theorem dX7_isWaiting_5 : decode cX7_isWaiting 5 = .ok (.iaload, 1) := by decide +kernel
theorem dX7_isWaiting_6 : decode cX7_isWaiting 6 = .ok (.iconst 1, 1) := by decide +kernel
theorem dX7_isWaiting_7 : decode cX7_isWaiting 7 = .ok (.if_icmp .ne 16, 3) := by decide +kernel
theorem dX7_isWaiting_10 : decode cX7_isWaiting 10 = .ok (.aload_n 0, 1) := by decide +kernel
theorem dX7_isWaiting_11 : decode cX7_isWaiting 11 = .ok (.getfield 19, 3) := by decide +kernel
theorem dX7_isWaiting_14 : decode cX7_isWaiting 14 = .ok (.iload_n 1, 1) := by decide +kernel
theorem dX7_isWaiting_15 : decode cX7_isWaiting 15 = .ok (.iaload, 1) := by decide +kernel
theorem dX7_isWaiting_16 : decode cX7_isWaiting 16 = .ok (.ifCond .ne 7, 3) := by decide +kernel
theorem dX7_isWaiting_19 : decode cX7_isWaiting 19 = .ok (.iconst 1, 1) := by decide +kernel
theorem dX7_isWaiting_20 : decode cX7_isWaiting 20 = .ok (.goto 4, 3) := by decide +kernel
theorem dX7_isWaiting_23 : decode cX7_isWaiting 23 = .ok (.iconst 0, 1) := by decide +kernel
theorem dX7_isWaiting_24 : decode cX7_isWaiting 24 = .ok (.ireturn, 1) := by decide +kernel
theorem dX7_waited_0 : decode cX7_waited 0 = .ok (.aload_n 0, 1) := by decide +kernel
theorem dX7_waited_1 : decode cX7_waited 1 = .ok (.iload_n 1, 1) := by decide +kernel
theorem dX7_waited_2 : decode cX7_waited 2 = .ok (.invokevirtual 85, 3) := by decide +kernel
theorem dX7_waited_5 : decode cX7_waited 5 = .ok (.ifCond .ne 7, 3) := by decide +kernel
theorem dX7_waited_8 : decode cX7_waited 8 = .ok (.iconst (-1), 1) := by decide +kernel
theorem dX7_waited_9 : decode cX7_waited 9 = .ok (.goto 24, 3) := by decide +kernel
theorem dX7_waited_12 : decode cX7_waited 12 = .ok (.aload_n 0, 1) := by decide +kernel
theorem dX7_waited_13 : decode cX7_waited 13 = .ok (.getfield 19, 3) := by decide +kernel
theorem dX7_waited_16 : decode cX7_waited 16 = .ok (.iload_n 1, 1) := by decide +kernel
theorem dX7_waited_17 : decode cX7_waited 17 = .ok (.iaload, 1) := by decide +kernel
theorem dX7_waited_18 : decode cX7_waited 18 = .ok (.iconst 1, 1) := by decide +kernel
theorem dX7_waited_19 : decode cX7_waited 19 = .ok (.if_icmp .ne 8, 3) := by decide +kernel
theorem dX7_waited_22 : decode cX7_waited 22 = .ok (.bipush (-2), 2) := by decide +kernel
theorem dX7_waited_24 : decode cX7_waited 24 = .ok (.goto 9, 3) := by decide +kernel
theorem dX7_waited_27 : decode cX7_waited 27 = .ok (.aload_n 0, 1) := by decide +kernel
theorem dX7_waited_28 : decode cX7_waited 28 = .ok (.getfield 22, 3) := by decide +kernel
theorem dX7_waited_31 : decode cX7_waited 31 = .ok (.iload_n 1, 1) := by decide +kernel
theorem dX7_waited_32 : decode cX7_waited 32 = .ok (.iaload, 1) := by decide +kernel
theorem dX7_waited_33 : decode cX7_waited 33 = .ok (.ireturn, 1) := by decide +kernel
theorem dX7_pointsOf_0 : decode cX7_pointsOf 0 = .ok (.iconst 0, 1) := by decide +kernel
theorem dX7_pointsOf_1 : decode cX7_pointsOf 1 = .ok (.istore_n 2, 1) := by decide +kernel
theorem dX7_pointsOf_2 : decode cX7_pointsOf 2 = .ok (.iconst 0, 1) := by decide +kernel
theorem dX7_pointsOf_3 : decode cX7_pointsOf 3 = .ok (.istore_n 3, 1) := by decide +kernel
theorem dX7_pointsOf_4 : decode cX7_pointsOf 4 = .ok (.iload_n 3, 1) := by decide +kernel
theorem dX7_pointsOf_5 : decode cX7_pointsOf 5 = .ok (.bipush 24, 2) := by decide +kernel
theorem dX7_pointsOf_7 : decode cX7_pointsOf 7 = .ok (.if_icmp .ge 47, 3) := by decide +kernel
theorem dX7_pointsOf_10 : decode cX7_pointsOf 10 = .ok (.iload_n 2, 1) := by decide +kernel
theorem dX7_pointsOf_11 : decode cX7_pointsOf 11 = .ok (.ifCond .ne 31, 3) := by decide +kernel
theorem dX7_pointsOf_14 : decode cX7_pointsOf 14 = .ok (.iload_n 3, 1) := by decide +kernel
theorem dX7_pointsOf_15 : decode cX7_pointsOf 15 = .ok (.iload_n 1, 1) := by decide +kernel
theorem dX7_pointsOf_16 : decode cX7_pointsOf 16 = .ok (.if_icmp .eq 30, 3) := by decide +kernel
theorem dX7_pointsOf_19 : decode cX7_pointsOf 19 = .ok (.aload_n 0, 1) := by decide +kernel
theorem dX7_pointsOf_20 : decode cX7_pointsOf 20 = .ok (.iload_n 3, 1) := by decide +kernel
theorem dX7_pointsOf_21 : decode cX7_pointsOf 21 = .ok (.invokevirtual 93, 3) := by decide +kernel
theorem dX7_pointsOf_24 : decode cX7_pointsOf 24 = .ok (.ifCond .eq 22, 3) := by decide +kernel
theorem dX7_pointsOf_27 : decode cX7_pointsOf 27 = .ok (.aload_n 0, 1) := by decide +kernel
theorem dX7_pointsOf_28 : decode cX7_pointsOf 28 = .ok (.getfield 16, 3) := by decide +kernel
theorem dX7_pointsOf_31 : decode cX7_pointsOf 31 = .ok (.iload_n 3, 1) := by decide +kernel
theorem dX7_pointsOf_32 : decode cX7_pointsOf 32 = .ok (.iaload, 1) := by decide +kernel
theorem dX7_pointsOf_33 : decode cX7_pointsOf 33 = .ok (.aload_n 0, 1) := by decide +kernel
theorem dX7_pointsOf_34 : decode cX7_pointsOf 34 = .ok (.getfield 16, 3) := by decide +kernel
theorem dX7_pointsOf_37 : decode cX7_pointsOf 37 = .ok (.iload_n 1, 1) := by decide +kernel
theorem dX7_pointsOf_38 : decode cX7_pointsOf 38 = .ok (.iaload, 1) := by decide +kernel
theorem dX7_pointsOf_39 : decode cX7_pointsOf 39 = .ok (.if_icmp .ne 7, 3) := by decide +kernel
theorem dX7_pointsOf_42 : decode cX7_pointsOf 42 = .ok (.iconst 1, 1) := by decide +kernel
theorem dX7_pointsOf_43 : decode cX7_pointsOf 43 = .ok (.goto 4, 3) := by decide +kernel
theorem dX7_pointsOf_46 : decode cX7_pointsOf 46 = .ok (.iconst 0, 1) := by decide +kernel
theorem dX7_pointsOf_47 : decode cX7_pointsOf 47 = .ok (.istore_n 2, 1) := by decide +kernel
theorem dX7_pointsOf_48 : decode cX7_pointsOf 48 = .ok (.iinc 3 1, 3) := by decide +kernel
theorem dX7_pointsOf_51 : decode cX7_pointsOf 51 = .ok (.goto (-47), 3) := by decide +kernel
theorem dX7_pointsOf_54 : decode cX7_pointsOf 54 = .ok (.bipush 10, 2) := by decide +kernel
theorem dX7_pointsOf_56 : decode cX7_pointsOf 56 = .ok (.aload_n 0, 1) := by decide +kernel
theorem dX7_pointsOf_57 : decode cX7_pointsOf 57 = .ok (.getfield 22, 3) := by decide +kernel
theorem dX7_pointsOf_60 : decode cX7_pointsOf 60 = .ok (.iload_n 1, 1) := by decide +kernel
theorem dX7_pointsOf_61 : decode cX7_pointsOf 61 = .ok (.iaload, 1) := by decide +kernel
theorem dX7_pointsOf_62 : decode cX7_pointsOf 62 = .ok (.imul, 1) := by decide +kernel
theorem dX7_pointsOf_63 : decode cX7_pointsOf 63 = .ok (.iload_n 2, 1) := by decide +kernel
theorem dX7_pointsOf_64 : decode cX7_pointsOf 64 = .ok (.ifCond .eq 8, 3) := by decide +kernel
theorem dX7_pointsOf_67 : decode cX7_pointsOf 67 = .ok (.bipush 25, 2) := by decide +kernel
theorem dX7_pointsOf_69 : decode cX7_pointsOf 69 = .ok (.goto 4, 3) := by decide +kernel
theorem dX7_pointsOf_72 : decode cX7_pointsOf 72 = .ok (.iconst 0, 1) := by decide +kernel
theorem dX7_pointsOf_73 : decode cX7_pointsOf 73 = .ok (.iadd, 1) := by decide +kernel
theorem dX7_pointsOf_74 : decode cX7_pointsOf 74 = .ok (.aload_n 0, 1) := by decide +kernel
theorem dX7_pointsOf_75 : decode cX7_pointsOf 75 = .ok (.iload_n 1, 1) := by decide +kernel
theorem dX7_pointsOf_76 : decode cX7_pointsOf 76 = .ok (.invokevirtual 89, 3) := by decide +kernel
theorem dX7_pointsOf_79 : decode cX7_pointsOf 79 = .ok (.iadd, 1) := by decide +kernel
theorem dX7_pointsOf_80 : decode cX7_pointsOf 80 = .ok (.ireturn, 1) := by decide +kernel
theorem dX7_points_0 : decode cX7_points 0 = .ok (.aload_n 0, 1) := by decide +kernel
theorem dX7_points_1 : decode cX7_points 1 = .ok (.iload_n 1, 1) := by decide +kernel
theorem dX7_points_2 : decode cX7_points 2 = .ok (.invokevirtual 85, 3) := by decide +kernel
theorem dX7_points_5 : decode cX7_points 5 = .ok (.ifCond .ne 7, 3) := by decide +kernel
theorem dX7_points_8 : decode cX7_points 8 = .ok (.iconst (-1), 1) := by decide +kernel
theorem dX7_points_9 : decode cX7_points 9 = .ok (.goto 23, 3) := by decide +kernel
theorem dX7_points_12 : decode cX7_points 12 = .ok (.aload_n 0, 1) := by decide +kernel
theorem dX7_points_13 : decode cX7_points 13 = .ok (.getfield 19, 3) := by decide +kernel
theorem dX7_points_16 : decode cX7_points 16 = .ok (.iload_n 1, 1) := by decide +kernel
theorem dX7_points_17 : decode cX7_points 17 = .ok (.iaload, 1) := by decide +kernel
theorem dX7_points_18 : decode cX7_points 18 = .ok (.iconst 1, 1) := by decide +kernel
theorem dX7_points_19 : decode cX7_points 19 = .ok (.if_icmp .ne 8, 3) := by decide +kernel
theorem dX7_points_22 : decode cX7_points 22 = .ok (.bipush (-2), 2) := by decide +kernel
theorem dX7_points_24 : decode cX7_points 24 = .ok (.goto 8, 3) := by decide +kernel
theorem dX7_points_27 : decode cX7_points 27 = .ok (.aload_n 0, 1) := by decide +kernel
theorem dX7_points_28 : decode cX7_points 28 = .ok (.iload_n 1, 1) := by decide +kernel
theorem dX7_points_29 : decode cX7_points 29 = .ok (.invokevirtual 130, 3) := by decide +kernel
theorem dX7_points_32 : decode cX7_points 32 = .ok (.ireturn, 1) := by decide +kernel
theorem dX7_isBefore_0 : decode cX7_isBefore 0 = .ok (.aload_n 0, 1) := by decide +kernel
theorem dX7_isBefore_1 : decode cX7_isBefore 1 = .ok (.iload_n 1, 1) := by decide +kernel
theorem dX7_isBefore_2 : decode cX7_isBefore 2 = .ok (.invokevirtual 130, 3) := by decide +kernel
theorem dX7_isBefore_5 : decode cX7_isBefore 5 = .ok (.istore_n 3, 1) := by decide +kernel
theorem dX7_isBefore_6 : decode cX7_isBefore 6 = .ok (.aload_n 0, 1) := by decide +kernel
theorem dX7_isBefore_7 : decode cX7_isBefore 7 = .ok (.iload_n 2, 1) := by decide +kernel
theorem dX7_isBefore_8 : decode cX7_isBefore 8 = .ok (.invokevirtual 130, 3) := by decide +kernel
theorem dX7_isBefore_11 : decode cX7_isBefore 11 = .ok (.istore 4, 2) := by decide +kernel
theorem dX7_isBefore_13 : decode cX7_isBefore 13 = .ok (.iload_n 3, 1) := by decide +kernel
theorem dX7_isBefore_14 : decode cX7_isBefore 14 = .ok (.iload 4, 2) := by decide +kernel
theorem dX7_isBefore_16 : decode cX7_isBefore 16 = .ok (.if_icmp .eq 15, 3) := by decide +kernel
theorem dX7_isBefore_19 : decode cX7_isBefore 19 = .ok (.iload_n 3, 1) := by decide +kernel
theorem dX7_isBefore_20 : decode cX7_isBefore 20 = .ok (.iload 4, 2) := by decide +kernel
theorem dX7_isBefore_22 : decode cX7_isBefore 22 = .ok (.if_icmp .le 7, 3) := by decide +kernel
theorem dX7_isBefore_25 : decode cX7_isBefore 25 = .ok (.iconst 1, 1) := by decide +kernel
theorem dX7_isBefore_26 : decode cX7_isBefore 26 = .ok (.goto 4, 3) := by decide +kernel
theorem dX7_isBefore_29 : decode cX7_isBefore 29 = .ok (.iconst 0, 1) := by decide +kernel
theorem dX7_isBefore_30 : decode cX7_isBefore 30 = .ok (.ireturn, 1) := by decide +kernel
theorem dX7_isBefore_31 : decode cX7_isBefore 31 = .ok (.aload_n 0, 1) := by decide +kernel
theorem dX7_isBefore_32 : decode cX7_isBefore 32 = .ok (.getfield 13, 3) := by decide +kernel
theorem dX7_isBefore_35 : decode cX7_isBefore 35 = .ok (.iload_n 1, 1) := by decide +kernel
theorem dX7_isBefore_36 : decode cX7_isBefore 36 = .ok (.iaload, 1) := by decide +kernel
theorem dX7_isBefore_37 : decode cX7_isBefore 37 = .ok (.aload_n 0, 1) := by decide +kernel
theorem dX7_isBefore_38 : decode cX7_isBefore 38 = .ok (.getfield 13, 3) := by decide +kernel
theorem dX7_isBefore_41 : decode cX7_isBefore 41 = .ok (.iload_n 2, 1) := by decide +kernel
theorem dX7_isBefore_42 : decode cX7_isBefore 42 = .ok (.iaload, 1) := by decide +kernel
theorem dX7_isBefore_43 : decode cX7_isBefore 43 = .ok (.if_icmp .eq 26, 3) := by decide +kernel
theorem dX7_isBefore_46 : decode cX7_isBefore 46 = .ok (.aload_n 0, 1) := by decide +kernel
theorem dX7_isBefore_47 : decode cX7_isBefore 47 = .ok (.getfield 13, 3) := by decide +kernel
theorem dX7_isBefore_50 : decode cX7_isBefore 50 = .ok (.iload_n 1, 1) := by decide +kernel
theorem dX7_isBefore_51 : decode cX7_isBefore 51 = .ok (.iaload, 1) := by decide +kernel
theorem dX7_isBefore_52 : decode cX7_isBefore 52 = .ok (.aload_n 0, 1) := by decide +kernel
theorem dX7_isBefore_53 : decode cX7_isBefore 53 = .ok (.getfield 13, 3) := by decide +kernel
theorem dX7_isBefore_56 : decode cX7_isBefore 56 = .ok (.iload_n 2, 1) := by decide +kernel
theorem dX7_isBefore_57 : decode cX7_isBefore 57 = .ok (.iaload, 1) := by decide +kernel
theorem dX7_isBefore_58 : decode cX7_isBefore 58 = .ok (.if_icmp .le 7, 3) := by decide +kernel
theorem dX7_isBefore_61 : decode cX7_isBefore 61 = .ok (.iconst 1, 1) := by decide +kernel
theorem dX7_isBefore_62 : decode cX7_isBefore 62 = .ok (.goto 17, 3) := by decide +kernel
theorem dX7_isBefore_65 : decode cX7_isBefore 65 = .ok (.iconst 0, 1) := by decide +kernel
theorem dX7_isBefore_66 : decode cX7_isBefore 66 = .ok (.goto 13, 3) := by decide +kernel
theorem dX7_isBefore_69 : decode cX7_isBefore 69 = .ok (.iload_n 1, 1) := by decide +kernel
theorem dX7_isBefore_70 : decode cX7_isBefore 70 = .ok (.iload_n 2, 1) := by decide +kernel
theorem dX7_isBefore_71 : decode cX7_isBefore 71 = .ok (.if_icmp .ge 7, 3) := by decide +kernel
theorem dX7_isBefore_74 : decode cX7_isBefore 74 = .ok (.iconst 1, 1) := by decide +kernel
theorem dX7_isBefore_75 : decode cX7_isBefore 75 = .ok (.goto 4, 3) := by decide +kernel
theorem dX7_isBefore_78 : decode cX7_isBefore 78 = .ok (.iconst 0, 1) := by decide +kernel
theorem dX7_isBefore_79 : decode cX7_isBefore 79 = .ok (.ireturn, 1) := by decide +kernel
theorem dX7_placeOf_0 : decode cX7_placeOf 0 = .ok (.iconst 0, 1) := by decide +kernel
theorem dX7_placeOf_1 : decode cX7_placeOf 1 = .ok (.istore_n 2, 1) := by decide +kernel
theorem dX7_placeOf_2 : decode cX7_placeOf 2 = .ok (.iconst 0, 1) := by decide +kernel
theorem dX7_placeOf_3 : decode cX7_placeOf 3 = .ok (.istore_n 3, 1) := by decide +kernel
theorem dX7_placeOf_4 : decode cX7_placeOf 4 = .ok (.iload_n 3, 1) := by decide +kernel
theorem dX7_placeOf_5 : decode cX7_placeOf 5 = .ok (.bipush 24, 2) := by decide +kernel
theorem dX7_placeOf_7 : decode cX7_placeOf 7 = .ok (.if_icmp .ge 39, 3) := by decide +kernel
theorem dX7_placeOf_10 : decode cX7_placeOf 10 = .ok (.iload_n 2, 1) := by decide +kernel
theorem dX7_placeOf_11 : decode cX7_placeOf 11 = .ok (.iload_n 3, 1) := by decide +kernel
theorem dX7_placeOf_12 : decode cX7_placeOf 12 = .ok (.iload_n 1, 1) := by decide +kernel
theorem dX7_placeOf_13 : decode cX7_placeOf 13 = .ok (.if_icmp .eq 24, 3) := by decide +kernel
theorem dX7_placeOf_16 : decode cX7_placeOf 16 = .ok (.aload_n 0, 1) := by decide +kernel
theorem dX7_placeOf_17 : decode cX7_placeOf 17 = .ok (.iload_n 3, 1) := by decide +kernel
theorem dX7_placeOf_18 : decode cX7_placeOf 18 = .ok (.invokevirtual 133, 3) := by decide +kernel
theorem dX7_placeOf_21 : decode cX7_placeOf 21 = .ok (.ifCond .eq 16, 3) := by decide +kernel
theorem dX7_placeOf_24 : decode cX7_placeOf 24 = .ok (.aload_n 0, 1) := by decide +kernel
theorem dX7_placeOf_25 : decode cX7_placeOf 25 = .ok (.iload_n 3, 1) := by decide +kernel
theorem dX7_placeOf_26 : decode cX7_placeOf 26 = .ok (.iload_n 1, 1) := by decide +kernel
theorem dX7_placeOf_27 : decode cX7_placeOf 27 = .ok (.invokevirtual 136, 3) := by decide +kernel
theorem dX7_placeOf_30 : decode cX7_placeOf 30 = .ok (.ifCond .eq 7, 3) := by decide +kernel
theorem dX7_placeOf_33 : decode cX7_placeOf 33 = .ok (.iconst 1, 1) := by decide +kernel
theorem dX7_placeOf_34 : decode cX7_placeOf 34 = .ok (.goto 4, 3) := by decide +kernel
theorem dX7_placeOf_37 : decode cX7_placeOf 37 = .ok (.iconst 0, 1) := by decide +kernel
theorem dX7_placeOf_38 : decode cX7_placeOf 38 = .ok (.iadd, 1) := by decide +kernel
theorem dX7_placeOf_39 : decode cX7_placeOf 39 = .ok (.istore_n 2, 1) := by decide +kernel
theorem dX7_placeOf_40 : decode cX7_placeOf 40 = .ok (.iinc 3 1, 3) := by decide +kernel
theorem dX7_placeOf_43 : decode cX7_placeOf 43 = .ok (.goto (-39), 3) := by decide +kernel
theorem dX7_placeOf_46 : decode cX7_placeOf 46 = .ok (.iload_n 2, 1) := by decide +kernel
theorem dX7_placeOf_47 : decode cX7_placeOf 47 = .ok (.ireturn, 1) := by decide +kernel
theorem dX7_waiting_0 : decode cX7_waiting 0 = .ok (.iload_n 1, 1) := by decide +kernel
theorem dX7_waiting_1 : decode cX7_waiting 1 = .ok (.ifCond .ge 5, 3) := by decide +kernel
theorem dX7_waiting_4 : decode cX7_waiting 4 = .ok (.iconst (-1), 1) := by decide +kernel
theorem dX7_waiting_5 : decode cX7_waiting 5 = .ok (.ireturn, 1) := by decide +kernel
theorem dX7_waiting_6 : decode cX7_waiting 6 = .ok (.bipush (-9), 2) := by decide +kernel
theorem dX7_waiting_8 : decode cX7_waiting 8 = .ok (.istore_n 2, 1) := by decide +kernel
theorem dX7_waiting_9 : decode cX7_waiting 9 = .ok (.iconst 0, 1) := by decide +kernel
theorem dX7_waiting_10 : decode cX7_waiting 10 = .ok (.istore_n 3, 1) := by decide +kernel
theorem dX7_waiting_11 : decode cX7_waiting 11 = .ok (.iload_n 3, 1) := by decide +kernel
theorem dX7_waiting_12 : decode cX7_waiting 12 = .ok (.bipush 24, 2) := by decide +kernel
theorem dX7_waiting_14 : decode cX7_waiting 14 = .ok (.if_icmp .ge 32, 3) := by decide +kernel
theorem dX7_waiting_17 : decode cX7_waiting 17 = .ok (.aload_n 0, 1) := by decide +kernel
theorem dX7_waiting_18 : decode cX7_waiting 18 = .ok (.iload_n 3, 1) := by decide +kernel
theorem dX7_waiting_19 : decode cX7_waiting 19 = .ok (.invokevirtual 133, 3) := by decide +kernel
theorem dX7_waiting_22 : decode cX7_waiting 22 = .ok (.ifCond .eq 16, 3) := by decide +kernel
theorem dX7_waiting_25 : decode cX7_waiting 25 = .ok (.aload_n 0, 1) := by decide +kernel
theorem dX7_waiting_26 : decode cX7_waiting 26 = .ok (.iload_n 3, 1) := by decide +kernel
theorem dX7_waiting_27 : decode cX7_waiting 27 = .ok (.invokevirtual 139, 3) := by decide +kernel
theorem dX7_waiting_30 : decode cX7_waiting 30 = .ok (.iload_n 1, 1) := by decide +kernel
theorem dX7_waiting_31 : decode cX7_waiting 31 = .ok (.if_icmp .ne 7, 3) := by decide +kernel
theorem dX7_waiting_34 : decode cX7_waiting 34 = .ok (.iload_n 3, 1) := by decide +kernel
theorem dX7_waiting_35 : decode cX7_waiting 35 = .ok (.goto 4, 3) := by decide +kernel
theorem dX7_waiting_38 : decode cX7_waiting 38 = .ok (.iload_n 2, 1) := by decide +kernel
theorem dX7_waiting_39 : decode cX7_waiting 39 = .ok (.istore_n 2, 1) := by decide +kernel
theorem dX7_waiting_40 : decode cX7_waiting 40 = .ok (.iinc 3 1, 3) := by decide +kernel
theorem dX7_waiting_43 : decode cX7_waiting 43 = .ok (.goto (-32), 3) := by decide +kernel
theorem dX7_waiting_46 : decode cX7_waiting 46 = .ok (.iload_n 2, 1) := by decide +kernel
theorem dX7_waiting_47 : decode cX7_waiting 47 = .ok (.ireturn, 1) := by decide +kernel
theorem dX7_canBeAdmitted_0 : decode cX7_canBeAdmitted 0 = .ok (.aload_n 0, 1) := by decide +kernel
theorem dX7_canBeAdmitted_1 : decode cX7_canBeAdmitted 1 = .ok (.iload_n 1, 1) := by decide +kernel
theorem dX7_canBeAdmitted_2 : decode cX7_canBeAdmitted 2 = .ok (.invokevirtual 89, 3) := by decide +kernel
theorem dX7_canBeAdmitted_5 : decode cX7_canBeAdmitted 5 = .ok (.ifCond .le 7, 3) := by decide +kernel
theorem dX7_canBeAdmitted_8 : decode cX7_canBeAdmitted 8 = .ok (.iconst 1, 1) := by decide +kernel
theorem dX7_canBeAdmitted_9 : decode cX7_canBeAdmitted 9 = .ok (.goto 4, 3) := by decide +kernel
theorem dX7_canBeAdmitted_12 : decode cX7_canBeAdmitted 12 = .ok (.iconst 0, 1) := by decide +kernel
theorem dX7_canBeAdmitted_13 : decode cX7_canBeAdmitted 13 = .ok (.istore_n 2, 1) := by decide +kernel
theorem dX7_canBeAdmitted_14 : decode cX7_canBeAdmitted 14 = .ok (.iconst 0, 1) := by decide +kernel
theorem dX7_canBeAdmitted_15 : decode cX7_canBeAdmitted 15 = .ok (.istore_n 3, 1) := by decide +kernel
theorem dX7_canBeAdmitted_16 : decode cX7_canBeAdmitted 16 = .ok (.iload_n 3, 1) := by decide +kernel
theorem dX7_canBeAdmitted_17 : decode cX7_canBeAdmitted 17 = .ok (.iconst 5, 1) := by decide +kernel
theorem dX7_canBeAdmitted_18 : decode cX7_canBeAdmitted 18 = .ok (.if_icmp .ge 57, 3) := by decide +kernel
theorem dX7_canBeAdmitted_21 : decode cX7_canBeAdmitted 21 = .ok (.iconst 0, 1) := by decide +kernel
theorem dX7_canBeAdmitted_22 : decode cX7_canBeAdmitted 22 = .ok (.istore 4, 2) := by decide +kernel
theorem dX7_canBeAdmitted_24 : decode cX7_canBeAdmitted 24 = .ok (.iload 4, 2) := by decide +kernel
theorem dX7_canBeAdmitted_26 : decode cX7_canBeAdmitted 26 = .ok (.bipush 10, 2) := by decide +kernel
theorem dX7_canBeAdmitted_28 : decode cX7_canBeAdmitted 28 = .ok (.if_icmp .ge 41, 3) := by decide +kernel
theorem dX7_canBeAdmitted_31 : decode cX7_canBeAdmitted 31 = .ok (.iload_n 2, 1) := by decide +kernel
theorem dX7_canBeAdmitted_32 : decode cX7_canBeAdmitted 32 = .ok (.ifCond .eq 37, 3) := by decide +kernel
theorem dX7_canBeAdmitted_35 : decode cX7_canBeAdmitted 35 = .ok (.aload_n 0, 1) := by decide +kernel
theorem dX7_canBeAdmitted_36 : decode cX7_canBeAdmitted 36 = .ok (.iload_n 1, 1) := by decide +kernel
theorem dX7_canBeAdmitted_37 : decode cX7_canBeAdmitted 37 = .ok (.iload_n 3, 1) := by decide +kernel
theorem dX7_canBeAdmitted_38 : decode cX7_canBeAdmitted 38 = .ok (.iload 4, 2) := by decide +kernel
theorem dX7_canBeAdmitted_40 : decode cX7_canBeAdmitted 40 = .ok (.invokevirtual 96, 3) := by decide +kernel
theorem dX7_canBeAdmitted_43 : decode cX7_canBeAdmitted 43 = .ok (.ifCond .eq 14, 3) := by decide +kernel
theorem dX7_canBeAdmitted_46 : decode cX7_canBeAdmitted 46 = .ok (.aload_n 0, 1) := by decide +kernel
theorem dX7_canBeAdmitted_47 : decode cX7_canBeAdmitted 47 = .ok (.iload_n 3, 1) := by decide +kernel
theorem dX7_canBeAdmitted_48 : decode cX7_canBeAdmitted 48 = .ok (.iload 4, 2) := by decide +kernel
theorem dX7_canBeAdmitted_50 : decode cX7_canBeAdmitted 50 = .ok (.iload_n 1, 1) := by decide +kernel
theorem dX7_canBeAdmitted_51 : decode cX7_canBeAdmitted 51 = .ok (.invokevirtual 113, 3) := by decide +kernel
theorem dX7_canBeAdmitted_54 : decode cX7_canBeAdmitted 54 = .ok (.ifCond .eq 7, 3) := by decide +kernel
theorem dX7_canBeAdmitted_57 : decode cX7_canBeAdmitted 57 = .ok (.iconst 1, 1) := by decide +kernel
theorem dX7_canBeAdmitted_58 : decode cX7_canBeAdmitted 58 = .ok (.goto 4, 3) := by decide +kernel
theorem dX7_canBeAdmitted_61 : decode cX7_canBeAdmitted 61 = .ok (.iconst 0, 1) := by decide +kernel
theorem dX7_canBeAdmitted_62 : decode cX7_canBeAdmitted 62 = .ok (.istore_n 2, 1) := by decide +kernel
theorem dX7_canBeAdmitted_63 : decode cX7_canBeAdmitted 63 = .ok (.iinc 4 1, 3) := by decide +kernel
theorem dX7_canBeAdmitted_66 : decode cX7_canBeAdmitted 66 = .ok (.goto (-42), 3) := by decide +kernel
theorem dX7_canBeAdmitted_69 : decode cX7_canBeAdmitted 69 = .ok (.iinc 3 1, 3) := by decide +kernel
theorem dX7_canBeAdmitted_72 : decode cX7_canBeAdmitted 72 = .ok (.goto (-56), 3) := by decide +kernel
theorem dX7_canBeAdmitted_75 : decode cX7_canBeAdmitted 75 = .ok (.iload_n 2, 1) := by decide +kernel
theorem dX7_canBeAdmitted_76 : decode cX7_canBeAdmitted 76 = .ok (.ireturn, 1) := by decide +kernel
theorem dX7_admit_0 : decode cX7_admit 0 = .ok (.iconst 0, 1) := by decide +kernel
theorem dX7_admit_1 : decode cX7_admit 1 = .ok (.istore_n 1, 1) := by decide +kernel
theorem dX7_admit_2 : decode cX7_admit 2 = .ok (.iconst 0, 1) := by decide +kernel
theorem dX7_admit_3 : decode cX7_admit 3 = .ok (.istore_n 2, 1) := by decide +kernel
theorem dX7_admit_4 : decode cX7_admit 4 = .ok (.iload_n 2, 1) := by decide +kernel
theorem dX7_admit_5 : decode cX7_admit 5 = .ok (.bipush (-9), 2) := by decide +kernel
theorem dX7_admit_7 : decode cX7_admit 7 = .ok (.if_icmp .eq 76, 3) := by decide +kernel
theorem dX7_admit_10 : decode cX7_admit 10 = .ok (.bipush (-9), 2) := by decide +kernel
theorem dX7_admit_12 : decode cX7_admit 12 = .ok (.istore_n 2, 1) := by decide +kernel
theorem dX7_admit_13 : decode cX7_admit 13 = .ok (.iconst 0, 1) := by decide +kernel
theorem dX7_admit_14 : decode cX7_admit 14 = .ok (.istore_n 3, 1) := by decide +kernel
theorem dX7_admit_15 : decode cX7_admit 15 = .ok (.iload_n 3, 1) := by decide +kernel
theorem dX7_admit_16 : decode cX7_admit 16 = .ok (.bipush 24, 2) := by decide +kernel
theorem dX7_admit_18 : decode cX7_admit 18 = .ok (.if_icmp .ge 46, 3) := by decide +kernel
theorem dX7_admit_21 : decode cX7_admit 21 = .ok (.aload_n 0, 1) := by decide +kernel
theorem dX7_admit_22 : decode cX7_admit 22 = .ok (.iload_n 3, 1) := by decide +kernel
theorem dX7_admit_23 : decode cX7_admit 23 = .ok (.invokevirtual 133, 3) := by decide +kernel
theorem dX7_admit_26 : decode cX7_admit 26 = .ok (.ifCond .eq 32, 3) := by decide +kernel
theorem dX7_admit_29 : decode cX7_admit 29 = .ok (.aload_n 0, 1) := by decide +kernel
theorem dX7_admit_30 : decode cX7_admit 30 = .ok (.iload_n 3, 1) := by decide +kernel
theorem dX7_admit_31 : decode cX7_admit 31 = .ok (.invokevirtual 142, 3) := by decide +kernel
theorem dX7_admit_34 : decode cX7_admit 34 = .ok (.ifCond .eq 24, 3) := by decide +kernel
theorem dX7_admit_37 : decode cX7_admit 37 = .ok (.iload_n 2, 1) := by decide +kernel
theorem dX7_admit_38 : decode cX7_admit 38 = .ok (.bipush (-9), 2) := by decide +kernel
theorem dX7_admit_40 : decode cX7_admit 40 = .ok (.if_icmp .eq 12, 3) := by decide +kernel
theorem dX7_admit_43 : decode cX7_admit 43 = .ok (.aload_n 0, 1) := by decide +kernel
theorem dX7_admit_44 : decode cX7_admit 44 = .ok (.iload_n 3, 1) := by decide +kernel
theorem dX7_admit_45 : decode cX7_admit 45 = .ok (.iload_n 2, 1) := by decide +kernel
theorem dX7_admit_46 : decode cX7_admit 46 = .ok (.invokevirtual 136, 3) := by decide +kernel
theorem dX7_admit_49 : decode cX7_admit 49 = .ok (.ifCond .eq 7, 3) := by decide +kernel
theorem dX7_admit_52 : decode cX7_admit 52 = .ok (.iload_n 3, 1) := by decide +kernel
theorem dX7_admit_53 : decode cX7_admit 53 = .ok (.goto 4, 3) := by decide +kernel
theorem dX7_admit_56 : decode cX7_admit 56 = .ok (.iload_n 2, 1) := by decide +kernel
theorem dX7_admit_57 : decode cX7_admit 57 = .ok (.istore_n 2, 1) := by decide +kernel
theorem dX7_admit_58 : decode cX7_admit 58 = .ok (.iinc 3 1, 3) := by decide +kernel
theorem dX7_admit_61 : decode cX7_admit 61 = .ok (.goto (-46), 3) := by decide +kernel
theorem dX7_admit_64 : decode cX7_admit 64 = .ok (.iload_n 2, 1) := by decide +kernel
theorem dX7_admit_65 : decode cX7_admit 65 = .ok (.bipush (-9), 2) := by decide +kernel
theorem dX7_admit_67 : decode cX7_admit 67 = .ok (.if_icmp .eq (-63), 3) := by decide +kernel
theorem dX7_admit_70 : decode cX7_admit 70 = .ok (.aload_n 0, 1) := by decide +kernel
theorem dX7_admit_71 : decode cX7_admit 71 = .ok (.getfield 19, 3) := by decide +kernel
theorem dX7_admit_74 : decode cX7_admit 74 = .ok (.iload_n 2, 1) := by decide +kernel
theorem dX7_admit_75 : decode cX7_admit 75 = .ok (.iconst 1, 1) := by decide +kernel
theorem dX7_admit_76 : decode cX7_admit 76 = .ok (.iastore, 1) := by decide +kernel
theorem dX7_admit_77 : decode cX7_admit 77 = .ok (.iinc 1 1, 3) := by decide +kernel
theorem dX7_admit_80 : decode cX7_admit 80 = .ok (.goto (-76), 3) := by decide +kernel
theorem dX7_admit_83 : decode cX7_admit 83 = .ok (.iload_n 1, 1) := by decide +kernel
theorem dX7_admit_84 : decode cX7_admit 84 = .ok (.ireturn, 1) := by decide +kernel
theorem dX7_release_0 : decode cX7_release 0 = .ok (.aload_n 0, 1) := by decide +kernel
theorem dX7_release_1 : decode cX7_release 1 = .ok (.iload_n 1, 1) := by decide +kernel
theorem dX7_release_2 : decode cX7_release 2 = .ok (.invokevirtual 85, 3) := by decide +kernel
theorem dX7_release_5 : decode cX7_release 5 = .ok (.ifCond .ne 5, 3) := by decide +kernel
theorem dX7_release_8 : decode cX7_release 8 = .ok (.iconst (-1), 1) := by decide +kernel
theorem dX7_release_9 : decode cX7_release 9 = .ok (.ireturn, 1) := by decide +kernel
theorem dX7_release_10 : decode cX7_release 10 = .ok (.aload_n 0, 1) := by decide +kernel
theorem dX7_release_11 : decode cX7_release 11 = .ok (.getfield 19, 3) := by decide +kernel
theorem dX7_release_14 : decode cX7_release 14 = .ok (.iload_n 1, 1) := by decide +kernel
theorem dX7_release_15 : decode cX7_release 15 = .ok (.iaload, 1) := by decide +kernel
theorem dX7_release_16 : decode cX7_release 16 = .ok (.ifCond .ne 6, 3) := by decide +kernel
theorem dX7_release_19 : decode cX7_release 19 = .ok (.bipush (-2), 2) := by decide +kernel
theorem dX7_release_21 : decode cX7_release 21 = .ok (.ireturn, 1) := by decide +kernel
theorem dX7_release_22 : decode cX7_release 22 = .ok (.aload_n 0, 1) := by decide +kernel
theorem dX7_release_23 : decode cX7_release 23 = .ok (.getfield 19, 3) := by decide +kernel
theorem dX7_release_26 : decode cX7_release 26 = .ok (.iload_n 1, 1) := by decide +kernel
theorem dX7_release_27 : decode cX7_release 27 = .ok (.iconst 0, 1) := by decide +kernel
theorem dX7_release_28 : decode cX7_release 28 = .ok (.iastore, 1) := by decide +kernel
theorem dX7_release_29 : decode cX7_release 29 = .ok (.aload_n 0, 1) := by decide +kernel
theorem dX7_release_30 : decode cX7_release 30 = .ok (.getfield 22, 3) := by decide +kernel
theorem dX7_release_33 : decode cX7_release 33 = .ok (.iload_n 1, 1) := by decide +kernel
theorem dX7_release_34 : decode cX7_release 34 = .ok (.iconst 0, 1) := by decide +kernel
theorem dX7_release_35 : decode cX7_release 35 = .ok (.iastore, 1) := by decide +kernel
theorem dX7_release_36 : decode cX7_release 36 = .ok (.aload_n 0, 1) := by decide +kernel
theorem dX7_release_37 : decode cX7_release 37 = .ok (.iload_n 1, 1) := by decide +kernel
theorem dX7_release_38 : decode cX7_release 38 = .ok (.invokevirtual 89, 3) := by decide +kernel
theorem dX7_release_41 : decode cX7_release 41 = .ok (.ireturn, 1) := by decide +kernel
theorem dX7_hasEducator_0 : decode cX7_hasEducator 0 = .ok (.iload_n 1, 1) := by decide +kernel
theorem dX7_hasEducator_1 : decode cX7_hasEducator 1 = .ok (.iconst 0, 1) := by decide +kernel
theorem dX7_hasEducator_2 : decode cX7_hasEducator 2 = .ok (.bipush 7, 2) := by decide +kernel
theorem dX7_hasEducator_4 : decode cX7_hasEducator 4 = .ok (.invokestatic 77, 3) := by decide +kernel
theorem dX7_hasEducator_7 : decode cX7_hasEducator 7 = .ok (.ifCond .eq 17, 3) := by decide +kernel
theorem dX7_hasEducator_10 : decode cX7_hasEducator 10 = .ok (.aload_n 0, 1) := by decide +kernel
theorem dX7_hasEducator_11 : decode cX7_hasEducator 11 = .ok (.getfield 31, 3) := by decide +kernel
theorem dX7_hasEducator_14 : decode cX7_hasEducator 14 = .ok (.iload_n 1, 1) := by decide +kernel
theorem dX7_hasEducator_15 : decode cX7_hasEducator 15 = .ok (.iaload, 1) := by decide +kernel
theorem dX7_hasEducator_16 : decode cX7_hasEducator 16 = .ok (.iconst 1, 1) := by decide +kernel
theorem dX7_hasEducator_17 : decode cX7_hasEducator 17 = .ok (.if_icmp .ne 7, 3) := by decide +kernel
theorem dX7_hasEducator_20 : decode cX7_hasEducator 20 = .ok (.iconst 1, 1) := by decide +kernel
theorem dX7_hasEducator_21 : decode cX7_hasEducator 21 = .ok (.goto 4, 3) := by decide +kernel
theorem dX7_hasEducator_24 : decode cX7_hasEducator 24 = .ok (.iconst 0, 1) := by decide +kernel
theorem dX7_hasEducator_25 : decode cX7_hasEducator 25 = .ok (.ireturn, 1) := by decide +kernel
theorem dX7_educatorMany_0 : decode cX7_educatorMany 0 = .ok (.iconst 0, 1) := by decide +kernel
theorem dX7_educatorMany_1 : decode cX7_educatorMany 1 = .ok (.istore_n 1, 1) := by decide +kernel
theorem dX7_educatorMany_2 : decode cX7_educatorMany 2 = .ok (.iconst 0, 1) := by decide +kernel
theorem dX7_educatorMany_3 : decode cX7_educatorMany 3 = .ok (.istore_n 2, 1) := by decide +kernel
theorem dX7_educatorMany_4 : decode cX7_educatorMany 4 = .ok (.iload_n 2, 1) := by decide +kernel
theorem dX7_educatorMany_5 : decode cX7_educatorMany 5 = .ok (.bipush 8, 2) := by decide +kernel
theorem dX7_educatorMany_7 : decode cX7_educatorMany 7 = .ok (.if_icmp .ge 18, 3) := by decide +kernel
theorem dX7_educatorMany_10 : decode cX7_educatorMany 10 = .ok (.iload_n 1, 1) := by decide +kernel
theorem dX7_educatorMany_11 : decode cX7_educatorMany 11 = .ok (.aload_n 0, 1) := by decide +kernel
theorem dX7_educatorMany_12 : decode cX7_educatorMany 12 = .ok (.getfield 31, 3) := by decide +kernel
theorem dX7_educatorMany_15 : decode cX7_educatorMany 15 = .ok (.iload_n 2, 1) := by decide +kernel
theorem dX7_educatorMany_16 : decode cX7_educatorMany 16 = .ok (.iaload, 1) := by decide +kernel
theorem dX7_educatorMany_17 : decode cX7_educatorMany 17 = .ok (.iadd, 1) := by decide +kernel
theorem dX7_educatorMany_18 : decode cX7_educatorMany 18 = .ok (.istore_n 1, 1) := by decide +kernel
theorem dX7_educatorMany_19 : decode cX7_educatorMany 19 = .ok (.iinc 2 1, 3) := by decide +kernel
theorem dX7_educatorMany_22 : decode cX7_educatorMany 22 = .ok (.goto (-18), 3) := by decide +kernel
theorem dX7_educatorMany_25 : decode cX7_educatorMany 25 = .ok (.iload_n 1, 1) := by decide +kernel
theorem dX7_educatorMany_26 : decode cX7_educatorMany 26 = .ok (.ireturn, 1) := by decide +kernel
theorem dX7_addEducator_0 : decode cX7_addEducator 0 = .ok (.aload_n 0, 1) := by decide +kernel
theorem dX7_addEducator_1 : decode cX7_addEducator 1 = .ok (.invokevirtual 145, 3) := by decide +kernel
theorem dX7_addEducator_4 : decode cX7_addEducator 4 = .ok (.bipush 8, 2) := by decide +kernel
theorem dX7_addEducator_6 : decode cX7_addEducator 6 = .ok (.if_icmp .ne 6, 3) := by decide +kernel
theorem dX7_addEducator_9 : decode cX7_addEducator 9 = .ok (.bipush (-3), 2) := by decide +kernel
theorem dX7_addEducator_11 : decode cX7_addEducator 11 = .ok (.ireturn, 1) := by decide +kernel
theorem dX7_addEducator_12 : decode cX7_addEducator 12 = .ok (.iconst 0, 1) := by decide +kernel
theorem dX7_addEducator_13 : decode cX7_addEducator 13 = .ok (.istore_n 1, 1) := by decide +kernel
theorem dX7_addEducator_14 : decode cX7_addEducator 14 = .ok (.aload_n 0, 1) := by decide +kernel
theorem dX7_addEducator_15 : decode cX7_addEducator 15 = .ok (.getfield 31, 3) := by decide +kernel
theorem dX7_addEducator_18 : decode cX7_addEducator 18 = .ok (.iload_n 1, 1) := by decide +kernel
theorem dX7_addEducator_19 : decode cX7_addEducator 19 = .ok (.iaload, 1) := by decide +kernel
theorem dX7_addEducator_20 : decode cX7_addEducator 20 = .ok (.iconst 1, 1) := by decide +kernel
theorem dX7_addEducator_21 : decode cX7_addEducator 21 = .ok (.if_icmp .ne 9, 3) := by decide +kernel
theorem dX7_addEducator_24 : decode cX7_addEducator 24 = .ok (.iinc 1 1, 3) := by decide +kernel
theorem dX7_addEducator_27 : decode cX7_addEducator 27 = .ok (.goto (-13), 3) := by decide +kernel
theorem dX7_addEducator_30 : decode cX7_addEducator 30 = .ok (.aload_n 0, 1) := by decide +kernel
theorem dX7_addEducator_31 : decode cX7_addEducator 31 = .ok (.getfield 31, 3) := by decide +kernel
theorem dX7_addEducator_34 : decode cX7_addEducator 34 = .ok (.iload_n 1, 1) := by decide +kernel
theorem dX7_addEducator_35 : decode cX7_addEducator 35 = .ok (.iconst 1, 1) := by decide +kernel
theorem dX7_addEducator_36 : decode cX7_addEducator 36 = .ok (.iastore, 1) := by decide +kernel
theorem dX7_addEducator_37 : decode cX7_addEducator 37 = .ok (.iconst 0, 1) := by decide +kernel
theorem dX7_addEducator_38 : decode cX7_addEducator 38 = .ok (.istore_n 2, 1) := by decide +kernel
theorem dX7_addEducator_39 : decode cX7_addEducator 39 = .ok (.iload_n 2, 1) := by decide +kernel
theorem dX7_addEducator_40 : decode cX7_addEducator 40 = .ok (.iconst 5, 1) := by decide +kernel
theorem dX7_addEducator_41 : decode cX7_addEducator 41 = .ok (.if_icmp .ge 31, 3) := by decide +kernel
theorem dX7_addEducator_44 : decode cX7_addEducator 44 = .ok (.aload_n 0, 1) := by decide +kernel
theorem dX7_addEducator_45 : decode cX7_addEducator 45 = .ok (.getfield 34, 3) := by decide +kernel
theorem dX7_addEducator_48 : decode cX7_addEducator 48 = .ok (.iconst 5, 1) := by decide +kernel
theorem dX7_addEducator_49 : decode cX7_addEducator 49 = .ok (.iload_n 1, 1) := by decide +kernel
theorem dX7_addEducator_50 : decode cX7_addEducator 50 = .ok (.imul, 1) := by decide +kernel
theorem dX7_addEducator_51 : decode cX7_addEducator 51 = .ok (.iload_n 2, 1) := by decide +kernel
theorem dX7_addEducator_52 : decode cX7_addEducator 52 = .ok (.iadd, 1) := by decide +kernel
theorem dX7_addEducator_53 : decode cX7_addEducator 53 = .ok (.iconst 0, 1) := by decide +kernel
theorem dX7_addEducator_54 : decode cX7_addEducator 54 = .ok (.iastore, 1) := by decide +kernel
theorem dX7_addEducator_55 : decode cX7_addEducator 55 = .ok (.aload_n 0, 1) := by decide +kernel
theorem dX7_addEducator_56 : decode cX7_addEducator 56 = .ok (.getfield 37, 3) := by decide +kernel
theorem dX7_addEducator_59 : decode cX7_addEducator 59 = .ok (.iconst 5, 1) := by decide +kernel
theorem dX7_addEducator_60 : decode cX7_addEducator 60 = .ok (.iload_n 1, 1) := by decide +kernel
theorem dX7_addEducator_61 : decode cX7_addEducator 61 = .ok (.imul, 1) := by decide +kernel
theorem dX7_addEducator_62 : decode cX7_addEducator 62 = .ok (.iload_n 2, 1) := by decide +kernel
theorem dX7_addEducator_63 : decode cX7_addEducator 63 = .ok (.iadd, 1) := by decide +kernel
theorem dX7_addEducator_64 : decode cX7_addEducator 64 = .ok (.iconst 0, 1) := by decide +kernel
theorem dX7_addEducator_65 : decode cX7_addEducator 65 = .ok (.iastore, 1) := by decide +kernel
theorem dX7_addEducator_66 : decode cX7_addEducator 66 = .ok (.iinc 2 1, 3) := by decide +kernel
theorem dX7_addEducator_69 : decode cX7_addEducator 69 = .ok (.goto (-30), 3) := by decide +kernel
theorem dX7_addEducator_72 : decode cX7_addEducator 72 = .ok (.iconst 0, 1) := by decide +kernel
theorem dX7_addEducator_73 : decode cX7_addEducator 73 = .ok (.istore_n 2, 1) := by decide +kernel
theorem dX7_addEducator_74 : decode cX7_addEducator 74 = .ok (.iload_n 2, 1) := by decide +kernel
theorem dX7_addEducator_75 : decode cX7_addEducator 75 = .ok (.bipush 52, 2) := by decide +kernel
theorem dX7_addEducator_77 : decode cX7_addEducator 77 = .ok (.if_icmp .ge 21, 3) := by decide +kernel
theorem dX7_addEducator_80 : decode cX7_addEducator 80 = .ok (.aload_n 0, 1) := by decide +kernel
theorem dX7_addEducator_81 : decode cX7_addEducator 81 = .ok (.getfield 40, 3) := by decide +kernel
theorem dX7_addEducator_84 : decode cX7_addEducator 84 = .ok (.bipush 52, 2) := by decide +kernel
theorem dX7_addEducator_86 : decode cX7_addEducator 86 = .ok (.iload_n 1, 1) := by decide +kernel
theorem dX7_addEducator_87 : decode cX7_addEducator 87 = .ok (.imul, 1) := by decide +kernel
theorem dX7_addEducator_88 : decode cX7_addEducator 88 = .ok (.iload_n 2, 1) := by decide +kernel
theorem dX7_addEducator_89 : decode cX7_addEducator 89 = .ok (.iadd, 1) := by decide +kernel
theorem dX7_addEducator_90 : decode cX7_addEducator 90 = .ok (.iconst 0, 1) := by decide +kernel
theorem dX7_addEducator_91 : decode cX7_addEducator 91 = .ok (.iastore, 1) := by decide +kernel
theorem dX7_addEducator_92 : decode cX7_addEducator 92 = .ok (.iinc 2 1, 3) := by decide +kernel
theorem dX7_addEducator_95 : decode cX7_addEducator 95 = .ok (.goto (-21), 3) := by decide +kernel
theorem dX7_addEducator_98 : decode cX7_addEducator 98 = .ok (.iload_n 1, 1) := by decide +kernel
theorem dX7_addEducator_99 : decode cX7_addEducator 99 = .ok (.ireturn, 1) := by decide +kernel
theorem dX7_removeEducator_0 : decode cX7_removeEducator 0 = .ok (.aload_n 0, 1) := by decide +kernel
theorem dX7_removeEducator_1 : decode cX7_removeEducator 1 = .ok (.iload_n 1, 1) := by decide +kernel
theorem dX7_removeEducator_2 : decode cX7_removeEducator 2 = .ok (.invokevirtual 148, 3) := by decide +kernel
theorem dX7_removeEducator_5 : decode cX7_removeEducator 5 = .ok (.ifCond .ne 5, 3) := by decide +kernel
theorem dX7_removeEducator_8 : decode cX7_removeEducator 8 = .ok (.iconst (-1), 1) := by decide +kernel
theorem dX7_removeEducator_9 : decode cX7_removeEducator 9 = .ok (.ireturn, 1) := by decide +kernel
theorem dX7_removeEducator_10 : decode cX7_removeEducator 10 = .ok (.aload_n 0, 1) := by decide +kernel
theorem dX7_removeEducator_11 : decode cX7_removeEducator 11 = .ok (.getfield 31, 3) := by decide +kernel
theorem dX7_removeEducator_14 : decode cX7_removeEducator 14 = .ok (.iload_n 1, 1) := by decide +kernel
theorem dX7_removeEducator_15 : decode cX7_removeEducator 15 = .ok (.iconst 0, 1) := by decide +kernel
theorem dX7_removeEducator_16 : decode cX7_removeEducator 16 = .ok (.iastore, 1) := by decide +kernel
theorem dX7_removeEducator_17 : decode cX7_removeEducator 17 = .ok (.aload_n 0, 1) := by decide +kernel
theorem dX7_removeEducator_18 : decode cX7_removeEducator 18 = .ok (.invokevirtual 145, 3) := by decide +kernel
theorem dX7_removeEducator_21 : decode cX7_removeEducator 21 = .ok (.ireturn, 1) := by decide +kernel
theorem dX7_educators_0 : decode cX7_educators 0 = .ok (.aload_n 0, 1) := by decide +kernel
theorem dX7_educators_1 : decode cX7_educators 1 = .ok (.invokevirtual 145, 3) := by decide +kernel
theorem dX7_educators_4 : decode cX7_educators 4 = .ok (.ireturn, 1) := by decide +kernel
theorem dX7_work_0 : decode cX7_work 0 = .ok (.aload_n 0, 1) := by decide +kernel
theorem dX7_work_1 : decode cX7_work 1 = .ok (.iload_n 1, 1) := by decide +kernel
theorem dX7_work_2 : decode cX7_work 2 = .ok (.invokevirtual 148, 3) := by decide +kernel
theorem dX7_work_5 : decode cX7_work 5 = .ok (.ifCond .eq 19, 3) := by decide +kernel
theorem dX7_work_8 : decode cX7_work 8 = .ok (.iload_n 2, 1) := by decide +kernel
theorem dX7_work_9 : decode cX7_work 9 = .ok (.invokestatic 116, 3) := by decide +kernel
theorem dX7_work_12 : decode cX7_work 12 = .ok (.ifCond .eq 12, 3) := by decide +kernel
theorem dX7_work_15 : decode cX7_work 15 = .ok (.iload_n 3, 1) := by decide +kernel
theorem dX7_work_16 : decode cX7_work 16 = .ok (.iload 4, 2) := by decide +kernel
theorem dX7_work_18 : decode cX7_work 18 = .ok (.invokestatic 119, 3) := by decide +kernel
theorem dX7_work_21 : decode cX7_work 21 = .ok (.ifCond .ne 5, 3) := by decide +kernel
theorem dX7_work_24 : decode cX7_work 24 = .ok (.iconst (-1), 1) := by decide +kernel
theorem dX7_work_25 : decode cX7_work 25 = .ok (.ireturn, 1) := by decide +kernel
theorem dX7_work_26 : decode cX7_work 26 = .ok (.aload_n 0, 1) := by decide +kernel
theorem dX7_work_27 : decode cX7_work 27 = .ok (.getfield 34, 3) := by decide +kernel
theorem dX7_work_30 : decode cX7_work 30 = .ok (.iconst 5, 1) := by decide +kernel
theorem dX7_work_31 : decode cX7_work 31 = .ok (.iload_n 1, 1) := by decide +kernel
theorem dX7_work_32 : decode cX7_work 32 = .ok (.imul, 1) := by decide +kernel
theorem dX7_work_33 : decode cX7_work 33 = .ok (.iload_n 2, 1) := by decide +kernel
theorem dX7_work_34 : decode cX7_work 34 = .ok (.iadd, 1) := by decide +kernel
theorem dX7_work_35 : decode cX7_work 35 = .ok (.iload_n 3, 1) := by decide +kernel
theorem dX7_work_36 : decode cX7_work 36 = .ok (.iastore, 1) := by decide +kernel
theorem dX7_work_37 : decode cX7_work 37 = .ok (.aload_n 0, 1) := by decide +kernel
theorem dX7_work_38 : decode cX7_work 38 = .ok (.getfield 37, 3) := by decide +kernel
theorem dX7_work_41 : decode cX7_work 41 = .ok (.iconst 5, 1) := by decide +kernel
theorem dX7_work_42 : decode cX7_work 42 = .ok (.iload_n 1, 1) := by decide +kernel
theorem dX7_work_43 : decode cX7_work 43 = .ok (.imul, 1) := by decide +kernel
theorem dX7_work_44 : decode cX7_work 44 = .ok (.iload_n 2, 1) := by decide +kernel
theorem dX7_work_45 : decode cX7_work 45 = .ok (.iadd, 1) := by decide +kernel
theorem dX7_work_46 : decode cX7_work 46 = .ok (.iload 4, 2) := by decide +kernel
theorem dX7_work_48 : decode cX7_work 48 = .ok (.iastore, 1) := by decide +kernel
theorem dX7_work_49 : decode cX7_work 49 = .ok (.iconst 0, 1) := by decide +kernel
theorem dX7_work_50 : decode cX7_work 50 = .ok (.istore 5, 2) := by decide +kernel
theorem dX7_work_52 : decode cX7_work 52 = .ok (.iconst 0, 1) := by decide +kernel
theorem dX7_work_53 : decode cX7_work 53 = .ok (.istore 6, 2) := by decide +kernel
theorem dX7_work_55 : decode cX7_work 55 = .ok (.iload 6, 2) := by decide +kernel
theorem dX7_work_57 : decode cX7_work 57 = .ok (.iconst 5, 1) := by decide +kernel
theorem dX7_work_58 : decode cX7_work 58 = .ok (.if_icmp .ge 37, 3) := by decide +kernel
theorem dX7_work_61 : decode cX7_work 61 = .ok (.iload 5, 2) := by decide +kernel
theorem dX7_work_63 : decode cX7_work 63 = .ok (.aload_n 0, 1) := by decide +kernel
theorem dX7_work_64 : decode cX7_work 64 = .ok (.getfield 37, 3) := by decide +kernel
theorem dX7_work_67 : decode cX7_work 67 = .ok (.iconst 5, 1) := by decide +kernel
theorem dX7_work_68 : decode cX7_work 68 = .ok (.iload_n 1, 1) := by decide +kernel
theorem dX7_work_69 : decode cX7_work 69 = .ok (.imul, 1) := by decide +kernel
theorem dX7_work_70 : decode cX7_work 70 = .ok (.iload 6, 2) := by decide +kernel
theorem dX7_work_72 : decode cX7_work 72 = .ok (.iadd, 1) := by decide +kernel
theorem dX7_work_73 : decode cX7_work 73 = .ok (.iaload, 1) := by decide +kernel
theorem dX7_work_74 : decode cX7_work 74 = .ok (.aload_n 0, 1) := by decide +kernel
theorem dX7_work_75 : decode cX7_work 75 = .ok (.getfield 34, 3) := by decide +kernel
theorem dX7_work_78 : decode cX7_work 78 = .ok (.iconst 5, 1) := by decide +kernel
theorem dX7_work_79 : decode cX7_work 79 = .ok (.iload_n 1, 1) := by decide +kernel
theorem dX7_work_80 : decode cX7_work 80 = .ok (.imul, 1) := by decide +kernel
theorem dX7_work_81 : decode cX7_work 81 = .ok (.iload 6, 2) := by decide +kernel
theorem dX7_work_83 : decode cX7_work 83 = .ok (.iadd, 1) := by decide +kernel
theorem dX7_work_84 : decode cX7_work 84 = .ok (.iaload, 1) := by decide +kernel
theorem dX7_work_85 : decode cX7_work 85 = .ok (.isub, 1) := by decide +kernel
theorem dX7_work_86 : decode cX7_work 86 = .ok (.iadd, 1) := by decide +kernel
theorem dX7_work_87 : decode cX7_work 87 = .ok (.istore 5, 2) := by decide +kernel
theorem dX7_work_89 : decode cX7_work 89 = .ok (.iinc 6 1, 3) := by decide +kernel
theorem dX7_work_92 : decode cX7_work 92 = .ok (.goto (-37), 3) := by decide +kernel
theorem dX7_work_95 : decode cX7_work 95 = .ok (.iload 5, 2) := by decide +kernel
theorem dX7_work_97 : decode cX7_work 97 = .ok (.ireturn, 1) := by decide +kernel
theorem dX7_isWeek_0 : decode cX7_isWeek 0 = .ok (.iload_n 0, 1) := by decide +kernel
theorem dX7_isWeek_1 : decode cX7_isWeek 1 = .ok (.iconst 0, 1) := by decide +kernel
theorem dX7_isWeek_2 : decode cX7_isWeek 2 = .ok (.bipush 51, 2) := by decide +kernel
theorem dX7_isWeek_4 : decode cX7_isWeek 4 = .ok (.invokestatic 77, 3) := by decide +kernel
theorem dX7_isWeek_7 : decode cX7_isWeek 7 = .ok (.ireturn, 1) := by decide +kernel
theorem dX7_setHoliday_0 : decode cX7_setHoliday 0 = .ok (.aload_n 0, 1) := by decide +kernel
theorem dX7_setHoliday_1 : decode cX7_setHoliday 1 = .ok (.iload_n 1, 1) := by decide +kernel
theorem dX7_setHoliday_2 : decode cX7_setHoliday 2 = .ok (.invokevirtual 148, 3) := by decide +kernel
theorem dX7_setHoliday_5 : decode cX7_setHoliday 5 = .ok (.ifCond .eq 10, 3) := by decide +kernel
theorem dX7_setHoliday_8 : decode cX7_setHoliday 8 = .ok (.iload_n 2, 1) := by decide +kernel
theorem dX7_setHoliday_9 : decode cX7_setHoliday 9 = .ok (.invokestatic 151, 3) := by decide +kernel
theorem dX7_setHoliday_12 : decode cX7_setHoliday 12 = .ok (.ifCond .ne 5, 3) := by decide +kernel
theorem dX7_setHoliday_15 : decode cX7_setHoliday 15 = .ok (.iconst (-1), 1) := by decide +kernel
theorem dX7_setHoliday_16 : decode cX7_setHoliday 16 = .ok (.ireturn, 1) := by decide +kernel
theorem dX7_setHoliday_17 : decode cX7_setHoliday 17 = .ok (.aload_n 0, 1) := by decide +kernel
theorem dX7_setHoliday_18 : decode cX7_setHoliday 18 = .ok (.getfield 40, 3) := by decide +kernel
theorem dX7_setHoliday_21 : decode cX7_setHoliday 21 = .ok (.bipush 52, 2) := by decide +kernel
theorem dX7_setHoliday_23 : decode cX7_setHoliday 23 = .ok (.iload_n 1, 1) := by decide +kernel
theorem dX7_setHoliday_24 : decode cX7_setHoliday 24 = .ok (.imul, 1) := by decide +kernel
theorem dX7_setHoliday_25 : decode cX7_setHoliday 25 = .ok (.iload_n 2, 1) := by decide +kernel
theorem dX7_setHoliday_26 : decode cX7_setHoliday 26 = .ok (.iadd, 1) := by decide +kernel
theorem dX7_setHoliday_27 : decode cX7_setHoliday 27 = .ok (.iload_n 3, 1) := by decide +kernel
theorem dX7_setHoliday_28 : decode cX7_setHoliday 28 = .ok (.ifCond .eq 7, 3) := by decide +kernel
theorem dX7_setHoliday_31 : decode cX7_setHoliday 31 = .ok (.iconst 1, 1) := by decide +kernel
theorem dX7_setHoliday_32 : decode cX7_setHoliday 32 = .ok (.goto 4, 3) := by decide +kernel
theorem dX7_setHoliday_35 : decode cX7_setHoliday 35 = .ok (.iconst 0, 1) := by decide +kernel
theorem dX7_setHoliday_36 : decode cX7_setHoliday 36 = .ok (.iastore, 1) := by decide +kernel
theorem dX7_setHoliday_37 : decode cX7_setHoliday 37 = .ok (.iconst 0, 1) := by decide +kernel
theorem dX7_setHoliday_38 : decode cX7_setHoliday 38 = .ok (.istore 4, 2) := by decide +kernel
theorem dX7_setHoliday_40 : decode cX7_setHoliday 40 = .ok (.iconst 0, 1) := by decide +kernel
theorem dX7_setHoliday_41 : decode cX7_setHoliday 41 = .ok (.istore 5, 2) := by decide +kernel
theorem dX7_setHoliday_43 : decode cX7_setHoliday 43 = .ok (.iload 5, 2) := by decide +kernel
theorem dX7_setHoliday_45 : decode cX7_setHoliday 45 = .ok (.bipush 52, 2) := by decide +kernel
theorem dX7_setHoliday_47 : decode cX7_setHoliday 47 = .ok (.if_icmp .ge 26, 3) := by decide +kernel
theorem dX7_setHoliday_50 : decode cX7_setHoliday 50 = .ok (.iload 4, 2) := by decide +kernel
theorem dX7_setHoliday_52 : decode cX7_setHoliday 52 = .ok (.aload_n 0, 1) := by decide +kernel
theorem dX7_setHoliday_53 : decode cX7_setHoliday 53 = .ok (.getfield 40, 3) := by decide +kernel
theorem dX7_setHoliday_56 : decode cX7_setHoliday 56 = .ok (.bipush 52, 2) := by decide +kernel
theorem dX7_setHoliday_58 : decode cX7_setHoliday 58 = .ok (.iload_n 1, 1) := by decide +kernel
theorem dX7_setHoliday_59 : decode cX7_setHoliday 59 = .ok (.imul, 1) := by decide +kernel
theorem dX7_setHoliday_60 : decode cX7_setHoliday 60 = .ok (.iload 5, 2) := by decide +kernel
theorem dX7_setHoliday_62 : decode cX7_setHoliday 62 = .ok (.iadd, 1) := by decide +kernel
theorem dX7_setHoliday_63 : decode cX7_setHoliday 63 = .ok (.iaload, 1) := by decide +kernel
theorem dX7_setHoliday_64 : decode cX7_setHoliday 64 = .ok (.iadd, 1) := by decide +kernel
theorem dX7_setHoliday_65 : decode cX7_setHoliday 65 = .ok (.istore 4, 2) := by decide +kernel
theorem dX7_setHoliday_67 : decode cX7_setHoliday 67 = .ok (.iinc 5 1, 3) := by decide +kernel
theorem dX7_setHoliday_70 : decode cX7_setHoliday 70 = .ok (.goto (-27), 3) := by decide +kernel
theorem dX7_setHoliday_73 : decode cX7_setHoliday 73 = .ok (.iload 4, 2) := by decide +kernel
theorem dX7_setHoliday_75 : decode cX7_setHoliday 75 = .ok (.ireturn, 1) := by decide +kernel
theorem dX7_isAgeGroup_0 : decode cX7_isAgeGroup 0 = .ok (.iload_n 0, 1) := by decide +kernel
theorem dX7_isAgeGroup_1 : decode cX7_isAgeGroup 1 = .ok (.iconst 0, 1) := by decide +kernel
theorem dX7_isAgeGroup_2 : decode cX7_isAgeGroup 2 = .ok (.iconst 2, 1) := by decide +kernel
theorem dX7_isAgeGroup_3 : decode cX7_isAgeGroup 3 = .ok (.invokestatic 77, 3) := by decide +kernel
theorem dX7_isAgeGroup_6 : decode cX7_isAgeGroup 6 = .ok (.ireturn, 1) := by decide +kernel
theorem dX7_setRatio_0 : decode cX7_setRatio 0 = .ok (.iload_n 1, 1) := by decide +kernel
theorem dX7_setRatio_1 : decode cX7_setRatio 1 = .ok (.invokestatic 154, 3) := by decide +kernel
theorem dX7_setRatio_4 : decode cX7_setRatio 4 = .ok (.ifCond .eq 13, 3) := by decide +kernel
theorem dX7_setRatio_7 : decode cX7_setRatio 7 = .ok (.iload_n 2, 1) := by decide +kernel
theorem dX7_setRatio_8 : decode cX7_setRatio 8 = .ok (.iconst 1, 1) := by decide +kernel
theorem dX7_setRatio_9 : decode cX7_setRatio 9 = .ok (.bipush 20, 2) := by decide +kernel
theorem dX7_setRatio_11 : decode cX7_setRatio 11 = .ok (.invokestatic 77, 3) := by decide +kernel
theorem dX7_setRatio_14 : decode cX7_setRatio 14 = .ok (.ifCond .ne 5, 3) := by decide +kernel
theorem dX7_setRatio_17 : decode cX7_setRatio 17 = .ok (.iconst (-1), 1) := by decide +kernel
theorem dX7_setRatio_18 : decode cX7_setRatio 18 = .ok (.ireturn, 1) := by decide +kernel
theorem dX7_setRatio_19 : decode cX7_setRatio 19 = .ok (.aload_n 0, 1) := by decide +kernel
theorem dX7_setRatio_20 : decode cX7_setRatio 20 = .ok (.getfield 43, 3) := by decide +kernel
theorem dX7_setRatio_23 : decode cX7_setRatio 23 = .ok (.iload_n 1, 1) := by decide +kernel
theorem dX7_setRatio_24 : decode cX7_setRatio 24 = .ok (.iaload, 1) := by decide +kernel
theorem dX7_setRatio_25 : decode cX7_setRatio 25 = .ok (.istore_n 3, 1) := by decide +kernel
theorem dX7_setRatio_26 : decode cX7_setRatio 26 = .ok (.aload_n 0, 1) := by decide +kernel
theorem dX7_setRatio_27 : decode cX7_setRatio 27 = .ok (.getfield 43, 3) := by decide +kernel
theorem dX7_setRatio_30 : decode cX7_setRatio 30 = .ok (.iload_n 1, 1) := by decide +kernel
theorem dX7_setRatio_31 : decode cX7_setRatio 31 = .ok (.iload_n 2, 1) := by decide +kernel
theorem dX7_setRatio_32 : decode cX7_setRatio 32 = .ok (.iastore, 1) := by decide +kernel
theorem dX7_setRatio_33 : decode cX7_setRatio 33 = .ok (.iload_n 3, 1) := by decide +kernel
theorem dX7_setRatio_34 : decode cX7_setRatio 34 = .ok (.ireturn, 1) := by decide +kernel
theorem dX7_setRoomLimit_0 : decode cX7_setRoomLimit 0 = .ok (.iload_n 1, 1) := by decide +kernel
theorem dX7_setRoomLimit_1 : decode cX7_setRoomLimit 1 = .ok (.iconst 1, 1) := by decide +kernel
theorem dX7_setRoomLimit_2 : decode cX7_setRoomLimit 2 = .ok (.bipush 24, 2) := by decide +kernel
theorem dX7_setRoomLimit_4 : decode cX7_setRoomLimit 4 = .ok (.invokestatic 77, 3) := by decide +kernel
theorem dX7_setRoomLimit_7 : decode cX7_setRoomLimit 7 = .ok (.ifCond .ne 5, 3) := by decide +kernel
theorem dX7_setRoomLimit_10 : decode cX7_setRoomLimit 10 = .ok (.iconst (-1), 1) := by decide +kernel
theorem dX7_setRoomLimit_11 : decode cX7_setRoomLimit 11 = .ok (.ireturn, 1) := by decide +kernel
theorem dX7_setRoomLimit_12 : decode cX7_setRoomLimit 12 = .ok (.aload_n 0, 1) := by decide +kernel
theorem dX7_setRoomLimit_13 : decode cX7_setRoomLimit 13 = .ok (.getfield 49, 3) := by decide +kernel
theorem dX7_setRoomLimit_16 : decode cX7_setRoomLimit 16 = .ok (.istore_n 2, 1) := by decide +kernel
theorem dX7_setRoomLimit_17 : decode cX7_setRoomLimit 17 = .ok (.aload_n 0, 1) := by decide +kernel
theorem dX7_setRoomLimit_18 : decode cX7_setRoomLimit 18 = .ok (.iload_n 1, 1) := by decide +kernel
theorem dX7_setRoomLimit_19 : decode cX7_setRoomLimit 19 = .ok (.putfield 49, 3) := by decide +kernel
theorem dX7_setRoomLimit_22 : decode cX7_setRoomLimit 22 = .ok (.iload_n 2, 1) := by decide +kernel
theorem dX7_setRoomLimit_23 : decode cX7_setRoomLimit 23 = .ok (.ireturn, 1) := by decide +kernel
theorem dX7_isHour_0 : decode cX7_isHour 0 = .ok (.iload_n 0, 1) := by decide +kernel
theorem dX7_isHour_1 : decode cX7_isHour 1 = .ok (.invokestatic 116, 3) := by decide +kernel
theorem dX7_isHour_4 : decode cX7_isHour 4 = .ok (.ifCond .eq 17, 3) := by decide +kernel
theorem dX7_isHour_7 : decode cX7_isHour 7 = .ok (.iload_n 1, 1) := by decide +kernel
theorem dX7_isHour_8 : decode cX7_isHour 8 = .ok (.iconst 0, 1) := by decide +kernel
theorem dX7_isHour_9 : decode cX7_isHour 9 = .ok (.bipush 9, 2) := by decide +kernel
theorem dX7_isHour_11 : decode cX7_isHour 11 = .ok (.invokestatic 77, 3) := by decide +kernel
theorem dX7_isHour_14 : decode cX7_isHour 14 = .ok (.ifCond .eq 7, 3) := by decide +kernel
theorem dX7_isHour_17 : decode cX7_isHour 17 = .ok (.iconst 1, 1) := by decide +kernel
theorem dX7_isHour_18 : decode cX7_isHour 18 = .ok (.goto 4, 3) := by decide +kernel
theorem dX7_isHour_21 : decode cX7_isHour 21 = .ok (.iconst 0, 1) := by decide +kernel
theorem dX7_isHour_22 : decode cX7_isHour 22 = .ok (.ireturn, 1) := by decide +kernel
theorem dX7_present_0 : decode cX7_present 0 = .ok (.iload_n 1, 1) := by decide +kernel
theorem dX7_present_1 : decode cX7_present 1 = .ok (.iload_n 2, 1) := by decide +kernel
theorem dX7_present_2 : decode cX7_present 2 = .ok (.invokestatic 157, 3) := by decide +kernel
theorem dX7_present_5 : decode cX7_present 5 = .ok (.ifCond .eq 14, 3) := by decide +kernel
theorem dX7_present_8 : decode cX7_present 8 = .ok (.aload_n 0, 1) := by decide +kernel
theorem dX7_present_9 : decode cX7_present 9 = .ok (.iload_n 1, 1) := by decide +kernel
theorem dX7_present_10 : decode cX7_present 10 = .ok (.iload_n 2, 1) := by decide +kernel
theorem dX7_present_11 : decode cX7_present 11 = .ok (.bipush (-9), 2) := by decide +kernel
theorem dX7_present_13 : decode cX7_present 13 = .ok (.invokevirtual 102, 3) := by decide +kernel
theorem dX7_present_16 : decode cX7_present 16 = .ok (.goto 4, 3) := by decide +kernel
theorem dX7_present_19 : decode cX7_present 19 = .ok (.iconst (-1), 1) := by decide +kernel
theorem dX7_present_20 : decode cX7_present 20 = .ok (.ireturn, 1) := by decide +kernel
theorem dX7_need_0 : decode cX7_need 0 = .ok (.iload_n 1, 1) := by decide +kernel
theorem dX7_need_1 : decode cX7_need 1 = .ok (.iload_n 2, 1) := by decide +kernel
theorem dX7_need_2 : decode cX7_need 2 = .ok (.invokestatic 157, 3) := by decide +kernel
theorem dX7_need_5 : decode cX7_need 5 = .ok (.ifCond .eq 14, 3) := by decide +kernel
theorem dX7_need_8 : decode cX7_need 8 = .ok (.aload_n 0, 1) := by decide +kernel
theorem dX7_need_9 : decode cX7_need 9 = .ok (.iload_n 1, 1) := by decide +kernel
theorem dX7_need_10 : decode cX7_need 10 = .ok (.iload_n 2, 1) := by decide +kernel
theorem dX7_need_11 : decode cX7_need 11 = .ok (.bipush (-9), 2) := by decide +kernel
theorem dX7_need_13 : decode cX7_need 13 = .ok (.invokevirtual 106, 3) := by decide +kernel
theorem dX7_need_16 : decode cX7_need 16 = .ok (.goto 4, 3) := by decide +kernel
theorem dX7_need_19 : decode cX7_need 19 = .ok (.iconst (-1), 1) := by decide +kernel
theorem dX7_need_20 : decode cX7_need 20 = .ok (.ireturn, 1) := by decide +kernel
theorem dX7_staff_0 : decode cX7_staff 0 = .ok (.iload_n 1, 1) := by decide +kernel
theorem dX7_staff_1 : decode cX7_staff 1 = .ok (.iload_n 2, 1) := by decide +kernel
theorem dX7_staff_2 : decode cX7_staff 2 = .ok (.invokestatic 157, 3) := by decide +kernel
theorem dX7_staff_5 : decode cX7_staff 5 = .ok (.ifCond .eq 12, 3) := by decide +kernel
theorem dX7_staff_8 : decode cX7_staff 8 = .ok (.aload_n 0, 1) := by decide +kernel
theorem dX7_staff_9 : decode cX7_staff 9 = .ok (.iload_n 1, 1) := by decide +kernel
theorem dX7_staff_10 : decode cX7_staff 10 = .ok (.iload_n 2, 1) := by decide +kernel
theorem dX7_staff_11 : decode cX7_staff 11 = .ok (.invokevirtual 109, 3) := by decide +kernel
theorem dX7_staff_14 : decode cX7_staff 14 = .ok (.goto 4, 3) := by decide +kernel
theorem dX7_staff_17 : decode cX7_staff 17 = .ok (.iconst (-1), 1) := by decide +kernel
theorem dX7_staff_18 : decode cX7_staff 18 = .ok (.ireturn, 1) := by decide +kernel
theorem dX7_unsafeMany_0 : decode cX7_unsafeMany 0 = .ok (.iconst 0, 1) := by decide +kernel
theorem dX7_unsafeMany_1 : decode cX7_unsafeMany 1 = .ok (.istore_n 1, 1) := by decide +kernel
theorem dX7_unsafeMany_2 : decode cX7_unsafeMany 2 = .ok (.iconst 0, 1) := by decide +kernel
theorem dX7_unsafeMany_3 : decode cX7_unsafeMany 3 = .ok (.istore_n 2, 1) := by decide +kernel
theorem dX7_unsafeMany_4 : decode cX7_unsafeMany 4 = .ok (.iload_n 2, 1) := by decide +kernel
theorem dX7_unsafeMany_5 : decode cX7_unsafeMany 5 = .ok (.iconst 5, 1) := by decide +kernel
theorem dX7_unsafeMany_6 : decode cX7_unsafeMany 6 = .ok (.if_icmp .ge 42, 3) := by decide +kernel
theorem dX7_unsafeMany_9 : decode cX7_unsafeMany 9 = .ok (.iconst 0, 1) := by decide +kernel
theorem dX7_unsafeMany_10 : decode cX7_unsafeMany 10 = .ok (.istore_n 3, 1) := by decide +kernel
theorem dX7_unsafeMany_11 : decode cX7_unsafeMany 11 = .ok (.iload_n 3, 1) := by decide +kernel
theorem dX7_unsafeMany_12 : decode cX7_unsafeMany 12 = .ok (.bipush 10, 2) := by decide +kernel
theorem dX7_unsafeMany_14 : decode cX7_unsafeMany 14 = .ok (.if_icmp .ge 28, 3) := by decide +kernel
theorem dX7_unsafeMany_17 : decode cX7_unsafeMany 17 = .ok (.iload_n 1, 1) := by decide +kernel
theorem dX7_unsafeMany_18 : decode cX7_unsafeMany 18 = .ok (.aload_n 0, 1) := by decide +kernel
theorem dX7_unsafeMany_19 : decode cX7_unsafeMany 19 = .ok (.iload_n 2, 1) := by decide +kernel
theorem dX7_unsafeMany_20 : decode cX7_unsafeMany 20 = .ok (.iload_n 3, 1) := by decide +kernel
theorem dX7_unsafeMany_21 : decode cX7_unsafeMany 21 = .ok (.bipush (-9), 2) := by decide +kernel
theorem dX7_unsafeMany_23 : decode cX7_unsafeMany 23 = .ok (.invokevirtual 113, 3) := by decide +kernel
theorem dX7_unsafeMany_26 : decode cX7_unsafeMany 26 = .ok (.ifCond .eq 7, 3) := by decide +kernel
theorem dX7_unsafeMany_29 : decode cX7_unsafeMany 29 = .ok (.iconst 0, 1) := by decide +kernel
theorem dX7_unsafeMany_30 : decode cX7_unsafeMany 30 = .ok (.goto 4, 3) := by decide +kernel
theorem dX7_unsafeMany_33 : decode cX7_unsafeMany 33 = .ok (.iconst 1, 1) := by decide +kernel
theorem dX7_unsafeMany_34 : decode cX7_unsafeMany 34 = .ok (.iadd, 1) := by decide +kernel
theorem dX7_unsafeMany_35 : decode cX7_unsafeMany 35 = .ok (.istore_n 1, 1) := by decide +kernel
theorem dX7_unsafeMany_36 : decode cX7_unsafeMany 36 = .ok (.iinc 3 1, 3) := by decide +kernel
theorem dX7_unsafeMany_39 : decode cX7_unsafeMany 39 = .ok (.goto (-28), 3) := by decide +kernel
theorem dX7_unsafeMany_42 : decode cX7_unsafeMany 42 = .ok (.iinc 2 1, 3) := by decide +kernel
theorem dX7_unsafeMany_45 : decode cX7_unsafeMany 45 = .ok (.goto (-41), 3) := by decide +kernel
theorem dX7_unsafeMany_48 : decode cX7_unsafeMany 48 = .ok (.iload_n 1, 1) := by decide +kernel
theorem dX7_unsafeMany_49 : decode cX7_unsafeMany 49 = .ok (.ireturn, 1) := by decide +kernel
theorem dX7_unsafeHours_0 : decode cX7_unsafeHours 0 = .ok (.aload_n 0, 1) := by decide +kernel
theorem dX7_unsafeHours_1 : decode cX7_unsafeHours 1 = .ok (.invokevirtual 160, 3) := by decide +kernel
theorem dX7_unsafeHours_4 : decode cX7_unsafeHours 4 = .ok (.ireturn, 1) := by decide +kernel
theorem dX7_load_0 : decode cX7_load 0 = .ok (.iload_n 1, 1) := by decide +kernel
theorem dX7_load_1 : decode cX7_load 1 = .ok (.invokestatic 116, 3) := by decide +kernel
theorem dX7_load_4 : decode cX7_load 4 = .ok (.ifCond .ne 7, 3) := by decide +kernel
theorem dX7_load_7 : decode cX7_load 7 = .ok (.ldc2_w 163, 3) := by decide +kernel
theorem dX7_load_10 : decode cX7_load 10 = .ok (.dreturn, 1) := by decide +kernel
theorem dX7_load_11 : decode cX7_load 11 = .ok (.iconst 0, 1) := by decide +kernel
theorem dX7_load_12 : decode cX7_load 12 = .ok (.istore_n 2, 1) := by decide +kernel
theorem dX7_load_13 : decode cX7_load 13 = .ok (.iconst 0, 1) := by decide +kernel
theorem dX7_load_14 : decode cX7_load 14 = .ok (.istore_n 3, 1) := by decide +kernel
theorem dX7_load_15 : decode cX7_load 15 = .ok (.iconst 0, 1) := by decide +kernel
theorem dX7_load_16 : decode cX7_load 16 = .ok (.istore 4, 2) := by decide +kernel
theorem dX7_load_18 : decode cX7_load 18 = .ok (.iload 4, 2) := by decide +kernel
theorem dX7_load_20 : decode cX7_load 20 = .ok (.bipush 10, 2) := by decide +kernel
theorem dX7_load_22 : decode cX7_load 22 = .ok (.if_icmp .ge 31, 3) := by decide +kernel
theorem dX7_load_25 : decode cX7_load 25 = .ok (.iload_n 2, 1) := by decide +kernel
theorem dX7_load_26 : decode cX7_load 26 = .ok (.aload_n 0, 1) := by decide +kernel
theorem dX7_load_27 : decode cX7_load 27 = .ok (.iload_n 1, 1) := by decide +kernel
theorem dX7_load_28 : decode cX7_load 28 = .ok (.iload 4, 2) := by decide +kernel
theorem dX7_load_30 : decode cX7_load 30 = .ok (.bipush (-9), 2) := by decide +kernel
theorem dX7_load_32 : decode cX7_load 32 = .ok (.invokevirtual 102, 3) := by decide +kernel
theorem dX7_load_35 : decode cX7_load 35 = .ok (.iadd, 1) := by decide +kernel
theorem dX7_load_36 : decode cX7_load 36 = .ok (.istore_n 2, 1) := by decide +kernel
theorem dX7_load_37 : decode cX7_load 37 = .ok (.iload_n 3, 1) := by decide +kernel
theorem dX7_load_38 : decode cX7_load 38 = .ok (.aload_n 0, 1) := by decide +kernel
theorem dX7_load_39 : decode cX7_load 39 = .ok (.iload_n 1, 1) := by decide +kernel
theorem dX7_load_40 : decode cX7_load 40 = .ok (.iload 4, 2) := by decide +kernel
theorem dX7_load_42 : decode cX7_load 42 = .ok (.invokevirtual 109, 3) := by decide +kernel
theorem dX7_load_45 : decode cX7_load 45 = .ok (.iadd, 1) := by decide +kernel
theorem dX7_load_46 : decode cX7_load 46 = .ok (.istore_n 3, 1) := by decide +kernel
theorem dX7_load_47 : decode cX7_load 47 = .ok (.iinc 4 1, 3) := by decide +kernel
theorem dX7_load_50 : decode cX7_load 50 = .ok (.goto (-32), 3) := by decide +kernel
theorem dX7_load_53 : decode cX7_load 53 = .ok (.iload_n 3, 1) := by decide +kernel
theorem dX7_load_54 : decode cX7_load 54 = .ok (.ifCond .ne 7, 3) := by decide +kernel
theorem dX7_load_57 : decode cX7_load 57 = .ok (.dconst 0, 1) := by decide +kernel
theorem dX7_load_58 : decode cX7_load 58 = .ok (.goto 8, 3) := by decide +kernel
theorem dX7_load_61 : decode cX7_load 61 = .ok (.iload_n 2, 1) := by decide +kernel
theorem dX7_load_62 : decode cX7_load 62 = .ok (.i2d, 1) := by decide +kernel
theorem dX7_load_63 : decode cX7_load 63 = .ok (.iload_n 3, 1) := by decide +kernel
theorem dX7_load_64 : decode cX7_load 64 = .ok (.i2d, 1) := by decide +kernel
theorem dX7_load_65 : decode cX7_load 65 = .ok (.ddiv, 1) := by decide +kernel
theorem dX7_load_66 : decode cX7_load 66 = .ok (.dreturn, 1) := by decide +kernel
theorem dX7_setRate_0 : decode cX7_setRate 0 = .ok (.iload_n 1, 1) := by decide +kernel
theorem dX7_setRate_1 : decode cX7_setRate 1 = .ok (.invokestatic 154, 3) := by decide +kernel
theorem dX7_setRate_4 : decode cX7_setRate 4 = .ok (.ifCond .eq 14, 3) := by decide +kernel
theorem dX7_setRate_7 : decode cX7_setRate 7 = .ok (.iload_n 2, 1) := by decide +kernel
theorem dX7_setRate_8 : decode cX7_setRate 8 = .ok (.iconst 0, 1) := by decide +kernel
theorem dX7_setRate_9 : decode cX7_setRate 9 = .ok (.sipush 5000, 3) := by decide +kernel
theorem dX7_setRate_12 : decode cX7_setRate 12 = .ok (.invokestatic 77, 3) := by decide +kernel
theorem dX7_setRate_15 : decode cX7_setRate 15 = .ok (.ifCond .ne 5, 3) := by decide +kernel
theorem dX7_setRate_18 : decode cX7_setRate 18 = .ok (.iconst (-1), 1) := by decide +kernel
theorem dX7_setRate_19 : decode cX7_setRate 19 = .ok (.ireturn, 1) := by decide +kernel
theorem dX7_setRate_20 : decode cX7_setRate 20 = .ok (.aload_n 0, 1) := by decide +kernel
theorem dX7_setRate_21 : decode cX7_setRate 21 = .ok (.getfield 46, 3) := by decide +kernel
theorem dX7_setRate_24 : decode cX7_setRate 24 = .ok (.iload_n 1, 1) := by decide +kernel
theorem dX7_setRate_25 : decode cX7_setRate 25 = .ok (.iaload, 1) := by decide +kernel
theorem dX7_setRate_26 : decode cX7_setRate 26 = .ok (.istore_n 3, 1) := by decide +kernel
theorem dX7_setRate_27 : decode cX7_setRate 27 = .ok (.aload_n 0, 1) := by decide +kernel
theorem dX7_setRate_28 : decode cX7_setRate 28 = .ok (.getfield 46, 3) := by decide +kernel
theorem dX7_setRate_31 : decode cX7_setRate 31 = .ok (.iload_n 1, 1) := by decide +kernel
theorem dX7_setRate_32 : decode cX7_setRate 32 = .ok (.iload_n 2, 1) := by decide +kernel
theorem dX7_setRate_33 : decode cX7_setRate 33 = .ok (.iastore, 1) := by decide +kernel
theorem dX7_setRate_34 : decode cX7_setRate 34 = .ok (.iload_n 3, 1) := by decide +kernel
theorem dX7_setRate_35 : decode cX7_setRate 35 = .ok (.ireturn, 1) := by decide +kernel
theorem dX7_feeOf_0 : decode cX7_feeOf 0 = .ok (.iconst 0, 1) := by decide +kernel
theorem dX7_feeOf_1 : decode cX7_feeOf 1 = .ok (.istore_n 2, 1) := by decide +kernel
theorem dX7_feeOf_2 : decode cX7_feeOf 2 = .ok (.iconst 0, 1) := by decide +kernel
theorem dX7_feeOf_3 : decode cX7_feeOf 3 = .ok (.istore_n 3, 1) := by decide +kernel
theorem dX7_feeOf_4 : decode cX7_feeOf 4 = .ok (.iload_n 3, 1) := by decide +kernel
theorem dX7_feeOf_5 : decode cX7_feeOf 5 = .ok (.bipush 24, 2) := by decide +kernel
theorem dX7_feeOf_7 : decode cX7_feeOf 7 = .ok (.if_icmp .ge 87, 3) := by decide +kernel
theorem dX7_feeOf_10 : decode cX7_feeOf 10 = .ok (.aload_n 0, 1) := by decide +kernel
theorem dX7_feeOf_11 : decode cX7_feeOf 11 = .ok (.getfield 13, 3) := by decide +kernel
theorem dX7_feeOf_14 : decode cX7_feeOf 14 = .ok (.iload_n 3, 1) := by decide +kernel
theorem dX7_feeOf_15 : decode cX7_feeOf 15 = .ok (.iaload, 1) := by decide +kernel
theorem dX7_feeOf_16 : decode cX7_feeOf 16 = .ok (.aload_n 0, 1) := by decide +kernel
theorem dX7_feeOf_17 : decode cX7_feeOf 17 = .ok (.getfield 13, 3) := by decide +kernel
theorem dX7_feeOf_20 : decode cX7_feeOf 20 = .ok (.iload_n 1, 1) := by decide +kernel
theorem dX7_feeOf_21 : decode cX7_feeOf 21 = .ok (.iaload, 1) := by decide +kernel
theorem dX7_feeOf_22 : decode cX7_feeOf 22 = .ok (.if_icmp .gt 23, 3) := by decide +kernel
theorem dX7_feeOf_25 : decode cX7_feeOf 25 = .ok (.aload_n 0, 1) := by decide +kernel
theorem dX7_feeOf_26 : decode cX7_feeOf 26 = .ok (.getfield 13, 3) := by decide +kernel
theorem dX7_feeOf_29 : decode cX7_feeOf 29 = .ok (.iload_n 3, 1) := by decide +kernel
theorem dX7_feeOf_30 : decode cX7_feeOf 30 = .ok (.iaload, 1) := by decide +kernel
theorem dX7_feeOf_31 : decode cX7_feeOf 31 = .ok (.aload_n 0, 1) := by decide +kernel
theorem dX7_feeOf_32 : decode cX7_feeOf 32 = .ok (.getfield 13, 3) := by decide +kernel
theorem dX7_feeOf_35 : decode cX7_feeOf 35 = .ok (.iload_n 1, 1) := by decide +kernel
theorem dX7_feeOf_36 : decode cX7_feeOf 36 = .ok (.iaload, 1) := by decide +kernel
theorem dX7_feeOf_37 : decode cX7_feeOf 37 = .ok (.if_icmp .ne 12, 3) := by decide +kernel
theorem dX7_feeOf_40 : decode cX7_feeOf 40 = .ok (.iload_n 3, 1) := by decide +kernel
theorem dX7_feeOf_41 : decode cX7_feeOf 41 = .ok (.iload_n 1, 1) := by decide +kernel
theorem dX7_feeOf_42 : decode cX7_feeOf 42 = .ok (.if_icmp .ge 7, 3) := by decide +kernel
theorem dX7_feeOf_45 : decode cX7_feeOf 45 = .ok (.iconst 1, 1) := by decide +kernel
theorem dX7_feeOf_46 : decode cX7_feeOf 46 = .ok (.goto 4, 3) := by decide +kernel
theorem dX7_feeOf_49 : decode cX7_feeOf 49 = .ok (.iconst 0, 1) := by decide +kernel
theorem dX7_feeOf_50 : decode cX7_feeOf 50 = .ok (.istore 4, 2) := by decide +kernel
theorem dX7_feeOf_52 : decode cX7_feeOf 52 = .ok (.iload_n 2, 1) := by decide +kernel
theorem dX7_feeOf_53 : decode cX7_feeOf 53 = .ok (.aload_n 0, 1) := by decide +kernel
theorem dX7_feeOf_54 : decode cX7_feeOf 54 = .ok (.iload_n 3, 1) := by decide +kernel
theorem dX7_feeOf_55 : decode cX7_feeOf 55 = .ok (.invokevirtual 93, 3) := by decide +kernel
theorem dX7_feeOf_58 : decode cX7_feeOf 58 = .ok (.ifCond .eq 27, 3) := by decide +kernel
theorem dX7_feeOf_61 : decode cX7_feeOf 61 = .ok (.aload_n 0, 1) := by decide +kernel
theorem dX7_feeOf_62 : decode cX7_feeOf 62 = .ok (.getfield 16, 3) := by decide +kernel
theorem dX7_feeOf_65 : decode cX7_feeOf 65 = .ok (.iload_n 3, 1) := by decide +kernel
theorem dX7_feeOf_66 : decode cX7_feeOf 66 = .ok (.iaload, 1) := by decide +kernel
theorem dX7_feeOf_67 : decode cX7_feeOf 67 = .ok (.aload_n 0, 1) := by decide +kernel
theorem dX7_feeOf_68 : decode cX7_feeOf 68 = .ok (.getfield 16, 3) := by decide +kernel
theorem dX7_feeOf_71 : decode cX7_feeOf 71 = .ok (.iload_n 1, 1) := by decide +kernel
theorem dX7_feeOf_72 : decode cX7_feeOf 72 = .ok (.iaload, 1) := by decide +kernel
theorem dX7_feeOf_73 : decode cX7_feeOf 73 = .ok (.if_icmp .ne 12, 3) := by decide +kernel
theorem dX7_feeOf_76 : decode cX7_feeOf 76 = .ok (.iload 4, 2) := by decide +kernel
theorem dX7_feeOf_78 : decode cX7_feeOf 78 = .ok (.ifCond .eq 7, 3) := by decide +kernel
theorem dX7_feeOf_81 : decode cX7_feeOf 81 = .ok (.iconst 1, 1) := by decide +kernel
theorem dX7_feeOf_82 : decode cX7_feeOf 82 = .ok (.goto 4, 3) := by decide +kernel
theorem dX7_feeOf_85 : decode cX7_feeOf 85 = .ok (.iconst 0, 1) := by decide +kernel
theorem dX7_feeOf_86 : decode cX7_feeOf 86 = .ok (.iadd, 1) := by decide +kernel
theorem dX7_feeOf_87 : decode cX7_feeOf 87 = .ok (.istore_n 2, 1) := by decide +kernel
theorem dX7_feeOf_88 : decode cX7_feeOf 88 = .ok (.iinc 3 1, 3) := by decide +kernel
theorem dX7_feeOf_91 : decode cX7_feeOf 91 = .ok (.goto (-87), 3) := by decide +kernel
theorem dX7_feeOf_94 : decode cX7_feeOf 94 = .ok (.iload_n 2, 1) := by decide +kernel
theorem dX7_feeOf_95 : decode cX7_feeOf 95 = .ok (.ifCond .ne 8, 3) := by decide +kernel
theorem dX7_feeOf_98 : decode cX7_feeOf 98 = .ok (.bipush 100, 2) := by decide +kernel
theorem dX7_feeOf_100 : decode cX7_feeOf 100 = .ok (.goto 15, 3) := by decide +kernel
theorem dX7_feeOf_103 : decode cX7_feeOf 103 = .ok (.iload_n 2, 1) := by decide +kernel
theorem dX7_feeOf_104 : decode cX7_feeOf 104 = .ok (.iconst 1, 1) := by decide +kernel
theorem dX7_feeOf_105 : decode cX7_feeOf 105 = .ok (.if_icmp .ne 8, 3) := by decide +kernel
theorem dX7_feeOf_108 : decode cX7_feeOf 108 = .ok (.bipush 70, 2) := by decide +kernel
theorem dX7_feeOf_110 : decode cX7_feeOf 110 = .ok (.goto 5, 3) := by decide +kernel
theorem dX7_feeOf_113 : decode cX7_feeOf 113 = .ok (.bipush 40, 2) := by decide +kernel
theorem dX7_feeOf_115 : decode cX7_feeOf 115 = .ok (.istore_n 3, 1) := by decide +kernel
theorem dX7_feeOf_116 : decode cX7_feeOf 116 = .ok (.iconst 4, 1) := by decide +kernel
theorem dX7_feeOf_117 : decode cX7_feeOf 117 = .ok (.aload_n 0, 1) := by decide +kernel
theorem dX7_feeOf_118 : decode cX7_feeOf 118 = .ok (.iload_n 1, 1) := by decide +kernel
theorem dX7_feeOf_119 : decode cX7_feeOf 119 = .ok (.invokevirtual 89, 3) := by decide +kernel
theorem dX7_feeOf_122 : decode cX7_feeOf 122 = .ok (.imul, 1) := by decide +kernel
theorem dX7_feeOf_123 : decode cX7_feeOf 123 = .ok (.aload_n 0, 1) := by decide +kernel
theorem dX7_feeOf_124 : decode cX7_feeOf 124 = .ok (.getfield 46, 3) := by decide +kernel
theorem dX7_feeOf_127 : decode cX7_feeOf 127 = .ok (.aload_n 0, 1) := by decide +kernel
theorem dX7_feeOf_128 : decode cX7_feeOf 128 = .ok (.iload_n 1, 1) := by decide +kernel
theorem dX7_feeOf_129 : decode cX7_feeOf 129 = .ok (.invokevirtual 99, 3) := by decide +kernel
theorem dX7_feeOf_132 : decode cX7_feeOf 132 = .ok (.iaload, 1) := by decide +kernel
theorem dX7_feeOf_133 : decode cX7_feeOf 133 = .ok (.imul, 1) := by decide +kernel
theorem dX7_feeOf_134 : decode cX7_feeOf 134 = .ok (.iload_n 3, 1) := by decide +kernel
theorem dX7_feeOf_135 : decode cX7_feeOf 135 = .ok (.imul, 1) := by decide +kernel
theorem dX7_feeOf_136 : decode cX7_feeOf 136 = .ok (.bipush 100, 2) := by decide +kernel
theorem dX7_feeOf_138 : decode cX7_feeOf 138 = .ok (.idiv, 1) := by decide +kernel
theorem dX7_feeOf_139 : decode cX7_feeOf 139 = .ok (.ireturn, 1) := by decide +kernel
theorem dX7_fee_0 : decode cX7_fee 0 = .ok (.aload_n 0, 1) := by decide +kernel
theorem dX7_fee_1 : decode cX7_fee 1 = .ok (.iload_n 1, 1) := by decide +kernel
theorem dX7_fee_2 : decode cX7_fee 2 = .ok (.invokevirtual 85, 3) := by decide +kernel
theorem dX7_fee_5 : decode cX7_fee 5 = .ok (.ifCond .ne 7, 3) := by decide +kernel
theorem dX7_fee_8 : decode cX7_fee 8 = .ok (.iconst (-1), 1) := by decide +kernel
theorem dX7_fee_9 : decode cX7_fee 9 = .ok (.goto 22, 3) := by decide +kernel
theorem dX7_fee_12 : decode cX7_fee 12 = .ok (.aload_n 0, 1) := by decide +kernel
theorem dX7_fee_13 : decode cX7_fee 13 = .ok (.getfield 19, 3) := by decide +kernel
theorem dX7_fee_16 : decode cX7_fee 16 = .ok (.iload_n 1, 1) := by decide +kernel
theorem dX7_fee_17 : decode cX7_fee 17 = .ok (.iaload, 1) := by decide +kernel
theorem dX7_fee_18 : decode cX7_fee 18 = .ok (.ifCond .ne 8, 3) := by decide +kernel
theorem dX7_fee_21 : decode cX7_fee 21 = .ok (.bipush (-2), 2) := by decide +kernel
theorem dX7_fee_23 : decode cX7_fee 23 = .ok (.goto 8, 3) := by decide +kernel
theorem dX7_fee_26 : decode cX7_fee 26 = .ok (.aload_n 0, 1) := by decide +kernel
theorem dX7_fee_27 : decode cX7_fee 27 = .ok (.iload_n 1, 1) := by decide +kernel
theorem dX7_fee_28 : decode cX7_fee 28 = .ok (.invokevirtual 165, 3) := by decide +kernel
theorem dX7_fee_31 : decode cX7_fee 31 = .ok (.ireturn, 1) := by decide +kernel
theorem dX7_feesOf_0 : decode cX7_feesOf 0 = .ok (.iconst 0, 1) := by decide +kernel
theorem dX7_feesOf_1 : decode cX7_feesOf 1 = .ok (.istore_n 2, 1) := by decide +kernel
theorem dX7_feesOf_2 : decode cX7_feesOf 2 = .ok (.iconst 0, 1) := by decide +kernel
theorem dX7_feesOf_3 : decode cX7_feesOf 3 = .ok (.istore_n 3, 1) := by decide +kernel
theorem dX7_feesOf_4 : decode cX7_feesOf 4 = .ok (.iload_n 3, 1) := by decide +kernel
theorem dX7_feesOf_5 : decode cX7_feesOf 5 = .ok (.bipush 24, 2) := by decide +kernel
theorem dX7_feesOf_7 : decode cX7_feesOf 7 = .ok (.if_icmp .ge 45, 3) := by decide +kernel
theorem dX7_feesOf_10 : decode cX7_feesOf 10 = .ok (.iload_n 2, 1) := by decide +kernel
theorem dX7_feesOf_11 : decode cX7_feesOf 11 = .ok (.aload_n 0, 1) := by decide +kernel
theorem dX7_feesOf_12 : decode cX7_feesOf 12 = .ok (.iload_n 3, 1) := by decide +kernel
theorem dX7_feesOf_13 : decode cX7_feesOf 13 = .ok (.invokevirtual 93, 3) := by decide +kernel
theorem dX7_feesOf_16 : decode cX7_feesOf 16 = .ok (.ifCond .eq 27, 3) := by decide +kernel
theorem dX7_feesOf_19 : decode cX7_feesOf 19 = .ok (.iload_n 1, 1) := by decide +kernel
theorem dX7_feesOf_20 : decode cX7_feesOf 20 = .ok (.bipush (-9), 2) := by decide +kernel
theorem dX7_feesOf_22 : decode cX7_feesOf 22 = .ok (.if_icmp .eq 13, 3) := by decide +kernel
theorem dX7_feesOf_25 : decode cX7_feesOf 25 = .ok (.aload_n 0, 1) := by decide +kernel
theorem dX7_feesOf_26 : decode cX7_feesOf 26 = .ok (.getfield 16, 3) := by decide +kernel
theorem dX7_feesOf_29 : decode cX7_feesOf 29 = .ok (.iload_n 3, 1) := by decide +kernel
theorem dX7_feesOf_30 : decode cX7_feesOf 30 = .ok (.iaload, 1) := by decide +kernel
theorem dX7_feesOf_31 : decode cX7_feesOf 31 = .ok (.iload_n 1, 1) := by decide +kernel
theorem dX7_feesOf_32 : decode cX7_feesOf 32 = .ok (.if_icmp .ne 11, 3) := by decide +kernel
theorem dX7_feesOf_35 : decode cX7_feesOf 35 = .ok (.aload_n 0, 1) := by decide +kernel
theorem dX7_feesOf_36 : decode cX7_feesOf 36 = .ok (.iload_n 3, 1) := by decide +kernel
theorem dX7_feesOf_37 : decode cX7_feesOf 37 = .ok (.invokevirtual 165, 3) := by decide +kernel
theorem dX7_feesOf_40 : decode cX7_feesOf 40 = .ok (.goto 4, 3) := by decide +kernel
theorem dX7_feesOf_43 : decode cX7_feesOf 43 = .ok (.iconst 0, 1) := by decide +kernel
theorem dX7_feesOf_44 : decode cX7_feesOf 44 = .ok (.iadd, 1) := by decide +kernel
theorem dX7_feesOf_45 : decode cX7_feesOf 45 = .ok (.istore_n 2, 1) := by decide +kernel
theorem dX7_feesOf_46 : decode cX7_feesOf 46 = .ok (.iinc 3 1, 3) := by decide +kernel
theorem dX7_feesOf_49 : decode cX7_feesOf 49 = .ok (.goto (-45), 3) := by decide +kernel
theorem dX7_feesOf_52 : decode cX7_feesOf 52 = .ok (.iload_n 2, 1) := by decide +kernel
theorem dX7_feesOf_53 : decode cX7_feesOf 53 = .ok (.ireturn, 1) := by decide +kernel
theorem dX7_income_0 : decode cX7_income 0 = .ok (.aload_n 0, 1) := by decide +kernel
theorem dX7_income_1 : decode cX7_income 1 = .ok (.bipush (-9), 2) := by decide +kernel
theorem dX7_income_3 : decode cX7_income 3 = .ok (.invokevirtual 168, 3) := by decide +kernel
theorem dX7_income_6 : decode cX7_income 6 = .ok (.ireturn, 1) := by decide +kernel
theorem dX7_familyFeeIfAdmitted_0 : decode cX7_familyFeeIfAdmitted 0 = .ok (.aload_n 0, 1) := by decide +kernel
theorem dX7_familyFeeIfAdmitted_1 : decode cX7_familyFeeIfAdmitted 1 = .ok (.iload_n 1, 1) := by decide +kernel
theorem dX7_familyFeeIfAdmitted_2 : decode cX7_familyFeeIfAdmitted 2 = .ok (.invokevirtual 85, 3) := by decide +kernel
theorem dX7_familyFeeIfAdmitted_5 : decode cX7_familyFeeIfAdmitted 5 = .ok (.ifCond .ne 5, 3) := by decide +kernel
theorem dX7_familyFeeIfAdmitted_8 : decode cX7_familyFeeIfAdmitted 8 = .ok (.iconst (-1), 1) := by decide +kernel
theorem dX7_familyFeeIfAdmitted_9 : decode cX7_familyFeeIfAdmitted 9 = .ok (.ireturn, 1) := by decide +kernel
theorem dX7_familyFeeIfAdmitted_10 : decode cX7_familyFeeIfAdmitted 10 = .ok (.aload_n 0, 1) := by decide +kernel
theorem dX7_familyFeeIfAdmitted_11 : decode cX7_familyFeeIfAdmitted 11 = .ok (.getfield 19, 3) := by decide +kernel
theorem dX7_familyFeeIfAdmitted_14 : decode cX7_familyFeeIfAdmitted 14 = .ok (.iload_n 1, 1) := by decide +kernel
theorem dX7_familyFeeIfAdmitted_15 : decode cX7_familyFeeIfAdmitted 15 = .ok (.iaload, 1) := by decide +kernel
theorem dX7_familyFeeIfAdmitted_16 : decode cX7_familyFeeIfAdmitted 16 = .ok (.iconst 1, 1) := by decide +kernel
theorem dX7_familyFeeIfAdmitted_17 : decode cX7_familyFeeIfAdmitted 17 = .ok (.if_icmp .ne 6, 3) := by decide +kernel
theorem dX7_familyFeeIfAdmitted_20 : decode cX7_familyFeeIfAdmitted 20 = .ok (.bipush (-2), 2) := by decide +kernel
theorem dX7_familyFeeIfAdmitted_22 : decode cX7_familyFeeIfAdmitted 22 = .ok (.ireturn, 1) := by decide +kernel
theorem dX7_familyFeeIfAdmitted_23 : decode cX7_familyFeeIfAdmitted 23 = .ok (.aload_n 0, 1) := by decide +kernel
theorem dX7_familyFeeIfAdmitted_24 : decode cX7_familyFeeIfAdmitted 24 = .ok (.getfield 19, 3) := by decide +kernel
theorem dX7_familyFeeIfAdmitted_27 : decode cX7_familyFeeIfAdmitted 27 = .ok (.iload_n 1, 1) := by decide +kernel
theorem dX7_familyFeeIfAdmitted_28 : decode cX7_familyFeeIfAdmitted 28 = .ok (.iconst 1, 1) := by decide +kernel
theorem dX7_familyFeeIfAdmitted_29 : decode cX7_familyFeeIfAdmitted 29 = .ok (.iastore, 1) := by decide +kernel
theorem dX7_familyFeeIfAdmitted_30 : decode cX7_familyFeeIfAdmitted 30 = .ok (.aload_n 0, 1) := by decide +kernel
theorem dX7_familyFeeIfAdmitted_31 : decode cX7_familyFeeIfAdmitted 31 = .ok (.aload_n 0, 1) := by decide +kernel
theorem dX7_familyFeeIfAdmitted_32 : decode cX7_familyFeeIfAdmitted 32 = .ok (.getfield 16, 3) := by decide +kernel
theorem dX7_familyFeeIfAdmitted_35 : decode cX7_familyFeeIfAdmitted 35 = .ok (.iload_n 1, 1) := by decide +kernel
theorem dX7_familyFeeIfAdmitted_36 : decode cX7_familyFeeIfAdmitted 36 = .ok (.iaload, 1) := by decide +kernel
theorem dX7_familyFeeIfAdmitted_37 : decode cX7_familyFeeIfAdmitted 37 = .ok (.invokevirtual 168, 3) := by decide +kernel
theorem dX7_familyFeeIfAdmitted_40 : decode cX7_familyFeeIfAdmitted 40 = .ok (.istore_n 2, 1) := by decide +kernel
theorem dX7_familyFeeIfAdmitted_41 : decode cX7_familyFeeIfAdmitted 41 = .ok (.aload_n 0, 1) := by decide +kernel
theorem dX7_familyFeeIfAdmitted_42 : decode cX7_familyFeeIfAdmitted 42 = .ok (.getfield 19, 3) := by decide +kernel
theorem dX7_familyFeeIfAdmitted_45 : decode cX7_familyFeeIfAdmitted 45 = .ok (.iload_n 1, 1) := by decide +kernel
theorem dX7_familyFeeIfAdmitted_46 : decode cX7_familyFeeIfAdmitted 46 = .ok (.iconst 0, 1) := by decide +kernel
theorem dX7_familyFeeIfAdmitted_47 : decode cX7_familyFeeIfAdmitted 47 = .ok (.iastore, 1) := by decide +kernel
theorem dX7_familyFeeIfAdmitted_48 : decode cX7_familyFeeIfAdmitted 48 = .ok (.iload_n 2, 1) := by decide +kernel
theorem dX7_familyFeeIfAdmitted_49 : decode cX7_familyFeeIfAdmitted 49 = .ok (.ireturn, 1) := by decide +kernel
theorem dX7_addSubstitute_0 : decode cX7_addSubstitute 0 = .ok (.iload_n 1, 1) := by decide +kernel
theorem dX7_addSubstitute_1 : decode cX7_addSubstitute 1 = .ok (.iconst 1, 1) := by decide +kernel
theorem dX7_addSubstitute_2 : decode cX7_addSubstitute 2 = .ok (.bipush 31, 2) := by decide +kernel
theorem dX7_addSubstitute_4 : decode cX7_addSubstitute 4 = .ok (.invokestatic 77, 3) := by decide +kernel
theorem dX7_addSubstitute_7 : decode cX7_addSubstitute 7 = .ok (.ifCond .eq 23, 3) := by decide +kernel
theorem dX7_addSubstitute_10 : decode cX7_addSubstitute 10 = .ok (.iload_n 2, 1) := by decide +kernel
theorem dX7_addSubstitute_11 : decode cX7_addSubstitute 11 = .ok (.iconst 1, 1) := by decide +kernel
theorem dX7_addSubstitute_12 : decode cX7_addSubstitute 12 = .ok (.iconst 5, 1) := by decide +kernel
theorem dX7_addSubstitute_13 : decode cX7_addSubstitute 13 = .ok (.invokestatic 77, 3) := by decide +kernel
theorem dX7_addSubstitute_16 : decode cX7_addSubstitute 16 = .ok (.ifCond .eq 14, 3) := by decide +kernel
theorem dX7_addSubstitute_19 : decode cX7_addSubstitute 19 = .ok (.iload_n 3, 1) := by decide +kernel
theorem dX7_addSubstitute_20 : decode cX7_addSubstitute 20 = .ok (.iconst 1, 1) := by decide +kernel
theorem dX7_addSubstitute_21 : decode cX7_addSubstitute 21 = .ok (.sipush 1000, 3) := by decide +kernel
theorem dX7_addSubstitute_24 : decode cX7_addSubstitute 24 = .ok (.invokestatic 77, 3) := by decide +kernel
theorem dX7_addSubstitute_27 : decode cX7_addSubstitute 27 = .ok (.ifCond .ne 5, 3) := by decide +kernel
theorem dX7_addSubstitute_30 : decode cX7_addSubstitute 30 = .ok (.iconst (-1), 1) := by decide +kernel
theorem dX7_addSubstitute_31 : decode cX7_addSubstitute 31 = .ok (.ireturn, 1) := by decide +kernel
theorem dX7_addSubstitute_32 : decode cX7_addSubstitute 32 = .ok (.aload_n 0, 1) := by decide +kernel
theorem dX7_addSubstitute_33 : decode cX7_addSubstitute 33 = .ok (.getfield 171, 3) := by decide +kernel
theorem dX7_addSubstitute_36 : decode cX7_addSubstitute 36 = .ok (.iconst 4, 1) := by decide +kernel
theorem dX7_addSubstitute_37 : decode cX7_addSubstitute 37 = .ok (.if_icmp .ne 6, 3) := by decide +kernel
theorem dX7_addSubstitute_40 : decode cX7_addSubstitute 40 = .ok (.bipush (-3), 2) := by decide +kernel
theorem dX7_addSubstitute_42 : decode cX7_addSubstitute 42 = .ok (.ireturn, 1) := by decide +kernel
theorem dX7_addSubstitute_43 : decode cX7_addSubstitute 43 = .ok (.aload_n 0, 1) := by decide +kernel
theorem dX7_addSubstitute_44 : decode cX7_addSubstitute 44 = .ok (.getfield 53, 3) := by decide +kernel
theorem dX7_addSubstitute_47 : decode cX7_addSubstitute 47 = .ok (.aload_n 0, 1) := by decide +kernel
theorem dX7_addSubstitute_48 : decode cX7_addSubstitute 48 = .ok (.getfield 171, 3) := by decide +kernel
theorem dX7_addSubstitute_51 : decode cX7_addSubstitute 51 = .ok (.iload_n 1, 1) := by decide +kernel
theorem dX7_addSubstitute_52 : decode cX7_addSubstitute 52 = .ok (.iastore, 1) := by decide +kernel
theorem dX7_addSubstitute_53 : decode cX7_addSubstitute 53 = .ok (.aload_n 0, 1) := by decide +kernel
theorem dX7_addSubstitute_54 : decode cX7_addSubstitute 54 = .ok (.getfield 56, 3) := by decide +kernel
theorem dX7_addSubstitute_57 : decode cX7_addSubstitute 57 = .ok (.aload_n 0, 1) := by decide +kernel
theorem dX7_addSubstitute_58 : decode cX7_addSubstitute 58 = .ok (.getfield 171, 3) := by decide +kernel
theorem dX7_addSubstitute_61 : decode cX7_addSubstitute 61 = .ok (.iload_n 2, 1) := by decide +kernel
theorem dX7_addSubstitute_62 : decode cX7_addSubstitute 62 = .ok (.iastore, 1) := by decide +kernel
theorem dX7_addSubstitute_63 : decode cX7_addSubstitute 63 = .ok (.aload_n 0, 1) := by decide +kernel
theorem dX7_addSubstitute_64 : decode cX7_addSubstitute 64 = .ok (.getfield 59, 3) := by decide +kernel
theorem dX7_addSubstitute_67 : decode cX7_addSubstitute 67 = .ok (.aload_n 0, 1) := by decide +kernel
theorem dX7_addSubstitute_68 : decode cX7_addSubstitute 68 = .ok (.getfield 171, 3) := by decide +kernel
theorem dX7_addSubstitute_71 : decode cX7_addSubstitute 71 = .ok (.iload_n 3, 1) := by decide +kernel
theorem dX7_addSubstitute_72 : decode cX7_addSubstitute 72 = .ok (.iastore, 1) := by decide +kernel
theorem dX7_addSubstitute_73 : decode cX7_addSubstitute 73 = .ok (.aload_n 0, 1) := by decide +kernel
theorem dX7_addSubstitute_74 : decode cX7_addSubstitute 74 = .ok (.dup, 1) := by decide +kernel
theorem dX7_addSubstitute_75 : decode cX7_addSubstitute 75 = .ok (.getfield 171, 3) := by decide +kernel
theorem dX7_addSubstitute_78 : decode cX7_addSubstitute 78 = .ok (.iconst 1, 1) := by decide +kernel
theorem dX7_addSubstitute_79 : decode cX7_addSubstitute 79 = .ok (.iadd, 1) := by decide +kernel
theorem dX7_addSubstitute_80 : decode cX7_addSubstitute 80 = .ok (.putfield 171, 3) := by decide +kernel
theorem dX7_addSubstitute_83 : decode cX7_addSubstitute 83 = .ok (.aload_n 0, 1) := by decide +kernel
theorem dX7_addSubstitute_84 : decode cX7_addSubstitute 84 = .ok (.getfield 171, 3) := by decide +kernel
theorem dX7_addSubstitute_87 : decode cX7_addSubstitute 87 = .ok (.iconst 1, 1) := by decide +kernel
theorem dX7_addSubstitute_88 : decode cX7_addSubstitute 88 = .ok (.isub, 1) := by decide +kernel
theorem dX7_addSubstitute_89 : decode cX7_addSubstitute 89 = .ok (.ireturn, 1) := by decide +kernel
theorem dX7_shortageOf_0 : decode cX7_shortageOf 0 = .ok (.iconst 0, 1) := by decide +kernel
theorem dX7_shortageOf_1 : decode cX7_shortageOf 1 = .ok (.istore_n 3, 1) := by decide +kernel
theorem dX7_shortageOf_2 : decode cX7_shortageOf 2 = .ok (.iconst 0, 1) := by decide +kernel
theorem dX7_shortageOf_3 : decode cX7_shortageOf 3 = .ok (.istore 4, 2) := by decide +kernel
theorem dX7_shortageOf_5 : decode cX7_shortageOf 5 = .ok (.iload 4, 2) := by decide +kernel
theorem dX7_shortageOf_7 : decode cX7_shortageOf 7 = .ok (.bipush 10, 2) := by decide +kernel
theorem dX7_shortageOf_9 : decode cX7_shortageOf 9 = .ok (.if_icmp .ge 135, 3) := by decide +kernel
theorem dX7_shortageOf_12 : decode cX7_shortageOf 12 = .ok (.iconst 0, 1) := by decide +kernel
theorem dX7_shortageOf_13 : decode cX7_shortageOf 13 = .ok (.istore 5, 2) := by decide +kernel
theorem dX7_shortageOf_15 : decode cX7_shortageOf 15 = .ok (.iconst 0, 1) := by decide +kernel
theorem dX7_shortageOf_16 : decode cX7_shortageOf 16 = .ok (.istore 6, 2) := by decide +kernel
theorem dX7_shortageOf_18 : decode cX7_shortageOf 18 = .ok (.iload 6, 2) := by decide +kernel
theorem dX7_shortageOf_20 : decode cX7_shortageOf 20 = .ok (.bipush 8, 2) := by decide +kernel
theorem dX7_shortageOf_22 : decode cX7_shortageOf 22 = .ok (.if_icmp .ge 89, 3) := by decide +kernel
theorem dX7_shortageOf_25 : decode cX7_shortageOf 25 = .ok (.aload_n 0, 1) := by decide +kernel
theorem dX7_shortageOf_26 : decode cX7_shortageOf 26 = .ok (.getfield 31, 3) := by decide +kernel
theorem dX7_shortageOf_29 : decode cX7_shortageOf 29 = .ok (.iload 6, 2) := by decide +kernel
theorem dX7_shortageOf_31 : decode cX7_shortageOf 31 = .ok (.iaload, 1) := by decide +kernel
theorem dX7_shortageOf_32 : decode cX7_shortageOf 32 = .ok (.iconst 1, 1) := by decide +kernel
theorem dX7_shortageOf_33 : decode cX7_shortageOf 33 = .ok (.if_icmp .ne 54, 3) := by decide +kernel
theorem dX7_shortageOf_36 : decode cX7_shortageOf 36 = .ok (.aload_n 0, 1) := by decide +kernel
theorem dX7_shortageOf_37 : decode cX7_shortageOf 37 = .ok (.getfield 40, 3) := by decide +kernel
theorem dX7_shortageOf_40 : decode cX7_shortageOf 40 = .ok (.bipush 52, 2) := by decide +kernel
theorem dX7_shortageOf_42 : decode cX7_shortageOf 42 = .ok (.iload 6, 2) := by decide +kernel
theorem dX7_shortageOf_44 : decode cX7_shortageOf 44 = .ok (.imul, 1) := by decide +kernel
theorem dX7_shortageOf_45 : decode cX7_shortageOf 45 = .ok (.iload_n 1, 1) := by decide +kernel
theorem dX7_shortageOf_46 : decode cX7_shortageOf 46 = .ok (.iadd, 1) := by decide +kernel
theorem dX7_shortageOf_47 : decode cX7_shortageOf 47 = .ok (.iaload, 1) := by decide +kernel
theorem dX7_shortageOf_48 : decode cX7_shortageOf 48 = .ok (.ifCond .ne 39, 3) := by decide +kernel
theorem dX7_shortageOf_51 : decode cX7_shortageOf 51 = .ok (.iload 4, 2) := by decide +kernel
theorem dX7_shortageOf_53 : decode cX7_shortageOf 53 = .ok (.aload_n 0, 1) := by decide +kernel
theorem dX7_shortageOf_54 : decode cX7_shortageOf 54 = .ok (.getfield 34, 3) := by decide +kernel
theorem dX7_shortageOf_57 : decode cX7_shortageOf 57 = .ok (.iconst 5, 1) := by decide +kernel
theorem dX7_shortageOf_58 : decode cX7_shortageOf 58 = .ok (.iload 6, 2) := by decide +kernel
theorem dX7_shortageOf_60 : decode cX7_shortageOf 60 = .ok (.imul, 1) := by decide +kernel
theorem dX7_shortageOf_61 : decode cX7_shortageOf 61 = .ok (.iload_n 2, 1) := by decide +kernel
theorem dX7_shortageOf_62 : decode cX7_shortageOf 62 = .ok (.iadd, 1) := by decide +kernel
theorem dX7_shortageOf_63 : decode cX7_shortageOf 63 = .ok (.iaload, 1) := by decide +kernel
theorem dX7_shortageOf_64 : decode cX7_shortageOf 64 = .ok (.aload_n 0, 1) := by decide +kernel
theorem dX7_shortageOf_65 : decode cX7_shortageOf 65 = .ok (.getfield 37, 3) := by decide +kernel
theorem dX7_shortageOf_68 : decode cX7_shortageOf 68 = .ok (.iconst 5, 1) := by decide +kernel
theorem dX7_shortageOf_69 : decode cX7_shortageOf 69 = .ok (.iload 6, 2) := by decide +kernel
theorem dX7_shortageOf_71 : decode cX7_shortageOf 71 = .ok (.imul, 1) := by decide +kernel
theorem dX7_shortageOf_72 : decode cX7_shortageOf 72 = .ok (.iload_n 2, 1) := by decide +kernel
theorem dX7_shortageOf_73 : decode cX7_shortageOf 73 = .ok (.iadd, 1) := by decide +kernel
theorem dX7_shortageOf_74 : decode cX7_shortageOf 74 = .ok (.iaload, 1) := by decide +kernel
theorem dX7_shortageOf_75 : decode cX7_shortageOf 75 = .ok (.iconst 1, 1) := by decide +kernel
theorem dX7_shortageOf_76 : decode cX7_shortageOf 76 = .ok (.isub, 1) := by decide +kernel
theorem dX7_shortageOf_77 : decode cX7_shortageOf 77 = .ok (.invokestatic 77, 3) := by decide +kernel
theorem dX7_shortageOf_80 : decode cX7_shortageOf 80 = .ok (.ifCond .eq 7, 3) := by decide +kernel
theorem dX7_shortageOf_83 : decode cX7_shortageOf 83 = .ok (.iconst 1, 1) := by decide +kernel
theorem dX7_shortageOf_84 : decode cX7_shortageOf 84 = .ok (.goto 4, 3) := by decide +kernel
theorem dX7_shortageOf_87 : decode cX7_shortageOf 87 = .ok (.iconst 0, 1) := by decide +kernel
theorem dX7_shortageOf_88 : decode cX7_shortageOf 88 = .ok (.istore 7, 2) := by decide +kernel
theorem dX7_shortageOf_90 : decode cX7_shortageOf 90 = .ok (.iload 5, 2) := by decide +kernel
theorem dX7_shortageOf_92 : decode cX7_shortageOf 92 = .ok (.iload 7, 2) := by decide +kernel
theorem dX7_shortageOf_94 : decode cX7_shortageOf 94 = .ok (.ifCond .eq 7, 3) := by decide +kernel
theorem dX7_shortageOf_97 : decode cX7_shortageOf 97 = .ok (.iconst 1, 1) := by decide +kernel
theorem dX7_shortageOf_98 : decode cX7_shortageOf 98 = .ok (.goto 4, 3) := by decide +kernel
theorem dX7_shortageOf_101 : decode cX7_shortageOf 101 = .ok (.iconst 0, 1) := by decide +kernel
theorem dX7_shortageOf_102 : decode cX7_shortageOf 102 = .ok (.iadd, 1) := by decide +kernel
theorem dX7_shortageOf_103 : decode cX7_shortageOf 103 = .ok (.istore 5, 2) := by decide +kernel
theorem dX7_shortageOf_105 : decode cX7_shortageOf 105 = .ok (.iinc 6 1, 3) := by decide +kernel
theorem dX7_shortageOf_108 : decode cX7_shortageOf 108 = .ok (.goto (-90), 3) := by decide +kernel
theorem dX7_shortageOf_111 : decode cX7_shortageOf 111 = .ok (.aload_n 0, 1) := by decide +kernel
theorem dX7_shortageOf_112 : decode cX7_shortageOf 112 = .ok (.iload_n 2, 1) := by decide +kernel
theorem dX7_shortageOf_113 : decode cX7_shortageOf 113 = .ok (.iload 4, 2) := by decide +kernel
theorem dX7_shortageOf_115 : decode cX7_shortageOf 115 = .ok (.bipush (-9), 2) := by decide +kernel
theorem dX7_shortageOf_117 : decode cX7_shortageOf 117 = .ok (.invokevirtual 106, 3) := by decide +kernel
theorem dX7_shortageOf_120 : decode cX7_shortageOf 120 = .ok (.iload 5, 2) := by decide +kernel
theorem dX7_shortageOf_122 : decode cX7_shortageOf 122 = .ok (.isub, 1) := by decide +kernel
theorem dX7_shortageOf_123 : decode cX7_shortageOf 123 = .ok (.istore 6, 2) := by decide +kernel
theorem dX7_shortageOf_125 : decode cX7_shortageOf 125 = .ok (.iload 6, 2) := by decide +kernel
theorem dX7_shortageOf_127 : decode cX7_shortageOf 127 = .ok (.iload_n 3, 1) := by decide +kernel
theorem dX7_shortageOf_128 : decode cX7_shortageOf 128 = .ok (.if_icmp .le 8, 3) := by decide +kernel
theorem dX7_shortageOf_131 : decode cX7_shortageOf 131 = .ok (.iload 6, 2) := by decide +kernel
theorem dX7_shortageOf_133 : decode cX7_shortageOf 133 = .ok (.goto 4, 3) := by decide +kernel
theorem dX7_shortageOf_136 : decode cX7_shortageOf 136 = .ok (.iload_n 3, 1) := by decide +kernel
theorem dX7_shortageOf_137 : decode cX7_shortageOf 137 = .ok (.istore_n 3, 1) := by decide +kernel
theorem dX7_shortageOf_138 : decode cX7_shortageOf 138 = .ok (.iinc 4 1, 3) := by decide +kernel
theorem dX7_shortageOf_141 : decode cX7_shortageOf 141 = .ok (.goto (-136), 3) := by decide +kernel
theorem dX7_shortageOf_144 : decode cX7_shortageOf 144 = .ok (.iload_n 3, 1) := by decide +kernel
theorem dX7_shortageOf_145 : decode cX7_shortageOf 145 = .ok (.ireturn, 1) := by decide +kernel
theorem dX7_shortage_0 : decode cX7_shortage 0 = .ok (.iload_n 1, 1) := by decide +kernel
theorem dX7_shortage_1 : decode cX7_shortage 1 = .ok (.invokestatic 151, 3) := by decide +kernel
theorem dX7_shortage_4 : decode cX7_shortage 4 = .ok (.ifCond .eq 19, 3) := by decide +kernel
theorem dX7_shortage_7 : decode cX7_shortage 7 = .ok (.iload_n 2, 1) := by decide +kernel
theorem dX7_shortage_8 : decode cX7_shortage 8 = .ok (.invokestatic 116, 3) := by decide +kernel
theorem dX7_shortage_11 : decode cX7_shortage 11 = .ok (.ifCond .eq 12, 3) := by decide +kernel
theorem dX7_shortage_14 : decode cX7_shortage 14 = .ok (.aload_n 0, 1) := by decide +kernel
theorem dX7_shortage_15 : decode cX7_shortage 15 = .ok (.iload_n 1, 1) := by decide +kernel
theorem dX7_shortage_16 : decode cX7_shortage 16 = .ok (.iload_n 2, 1) := by decide +kernel
theorem dX7_shortage_17 : decode cX7_shortage 17 = .ok (.invokevirtual 174, 3) := by decide +kernel
theorem dX7_shortage_20 : decode cX7_shortage 20 = .ok (.goto 4, 3) := by decide +kernel
theorem dX7_shortage_23 : decode cX7_shortage 23 = .ok (.iconst (-1), 1) := by decide +kernel
theorem dX7_shortage_24 : decode cX7_shortage 24 = .ok (.ireturn, 1) := by decide +kernel
theorem dX7_power_0 : decode cX7_power 0 = .ok (.iload_n 0, 1) := by decide +kernel
theorem dX7_power_1 : decode cX7_power 1 = .ok (.ifCond .ne 7, 3) := by decide +kernel
theorem dX7_power_4 : decode cX7_power 4 = .ok (.iconst 1, 1) := by decide +kernel
theorem dX7_power_5 : decode cX7_power 5 = .ok (.goto 26, 3) := by decide +kernel
theorem dX7_power_8 : decode cX7_power 8 = .ok (.iload_n 0, 1) := by decide +kernel
theorem dX7_power_9 : decode cX7_power 9 = .ok (.iconst 1, 1) := by decide +kernel
theorem dX7_power_10 : decode cX7_power 10 = .ok (.if_icmp .ne 8, 3) := by decide +kernel
theorem dX7_power_13 : decode cX7_power 13 = .ok (.bipush 6, 2) := by decide +kernel
theorem dX7_power_15 : decode cX7_power 15 = .ok (.goto 16, 3) := by decide +kernel
theorem dX7_power_18 : decode cX7_power 18 = .ok (.iload_n 0, 1) := by decide +kernel
theorem dX7_power_19 : decode cX7_power 19 = .ok (.iconst 2, 1) := by decide +kernel
theorem dX7_power_20 : decode cX7_power 20 = .ok (.if_icmp .ne 8, 3) := by decide +kernel
theorem dX7_power_23 : decode cX7_power 23 = .ok (.bipush 36, 2) := by decide +kernel
theorem dX7_power_25 : decode cX7_power 25 = .ok (.goto 6, 3) := by decide +kernel
theorem dX7_power_28 : decode cX7_power 28 = .ok (.sipush 216, 3) := by decide +kernel
theorem dX7_power_31 : decode cX7_power 31 = .ok (.ireturn, 1) := by decide +kernel
theorem dX7_canBeGiven_0 : decode cX7_canBeGiven 0 = .ok (.iconst 1, 1) := by decide +kernel
theorem dX7_canBeGiven_1 : decode cX7_canBeGiven 1 = .ok (.istore 5, 2) := by decide +kernel
theorem dX7_canBeGiven_3 : decode cX7_canBeGiven 3 = .ok (.iconst 0, 1) := by decide +kernel
theorem dX7_canBeGiven_4 : decode cX7_canBeGiven 4 = .ok (.istore 6, 2) := by decide +kernel
theorem dX7_canBeGiven_6 : decode cX7_canBeGiven 6 = .ok (.iconst 0, 1) := by decide +kernel
theorem dX7_canBeGiven_7 : decode cX7_canBeGiven 7 = .ok (.istore 7, 2) := by decide +kernel
theorem dX7_canBeGiven_9 : decode cX7_canBeGiven 9 = .ok (.iload 7, 2) := by decide +kernel
theorem dX7_canBeGiven_11 : decode cX7_canBeGiven 11 = .ok (.iconst 4, 1) := by decide +kernel
theorem dX7_canBeGiven_12 : decode cX7_canBeGiven 12 = .ok (.if_icmp .ge 78, 3) := by decide +kernel
theorem dX7_canBeGiven_15 : decode cX7_canBeGiven 15 = .ok (.iload_n 1, 1) := by decide +kernel
theorem dX7_canBeGiven_16 : decode cX7_canBeGiven 16 = .ok (.iload 7, 2) := by decide +kernel
theorem dX7_canBeGiven_18 : decode cX7_canBeGiven 18 = .ok (.ishr, 1) := by decide +kernel
theorem dX7_canBeGiven_19 : decode cX7_canBeGiven 19 = .ok (.iconst 1, 1) := by decide +kernel
theorem dX7_canBeGiven_20 : decode cX7_canBeGiven 20 = .ok (.iand, 1) := by decide +kernel
theorem dX7_canBeGiven_21 : decode cX7_canBeGiven 21 = .ok (.iconst 1, 1) := by decide +kernel
theorem dX7_canBeGiven_22 : decode cX7_canBeGiven 22 = .ok (.if_icmp .ne 62, 3) := by decide +kernel
theorem dX7_canBeGiven_25 : decode cX7_canBeGiven 25 = .ok (.iload 5, 2) := by decide +kernel
theorem dX7_canBeGiven_27 : decode cX7_canBeGiven 27 = .ok (.ifCond .eq 51, 3) := by decide +kernel
theorem dX7_canBeGiven_30 : decode cX7_canBeGiven 30 = .ok (.iload 7, 2) := by decide +kernel
theorem dX7_canBeGiven_32 : decode cX7_canBeGiven 32 = .ok (.aload_n 0, 1) := by decide +kernel
theorem dX7_canBeGiven_33 : decode cX7_canBeGiven 33 = .ok (.getfield 171, 3) := by decide +kernel
theorem dX7_canBeGiven_36 : decode cX7_canBeGiven 36 = .ok (.if_icmp .ge 42, 3) := by decide +kernel
theorem dX7_canBeGiven_39 : decode cX7_canBeGiven 39 = .ok (.aload_n 0, 1) := by decide +kernel
theorem dX7_canBeGiven_40 : decode cX7_canBeGiven 40 = .ok (.getfield 53, 3) := by decide +kernel
theorem dX7_canBeGiven_43 : decode cX7_canBeGiven 43 = .ok (.iload 7, 2) := by decide +kernel
theorem dX7_canBeGiven_45 : decode cX7_canBeGiven 45 = .ok (.iaload, 1) := by decide +kernel
theorem dX7_canBeGiven_46 : decode cX7_canBeGiven 46 = .ok (.iload_n 2, 1) := by decide +kernel
theorem dX7_canBeGiven_47 : decode cX7_canBeGiven 47 = .ok (.ishr, 1) := by decide +kernel
theorem dX7_canBeGiven_48 : decode cX7_canBeGiven 48 = .ok (.iconst 1, 1) := by decide +kernel
theorem dX7_canBeGiven_49 : decode cX7_canBeGiven 49 = .ok (.iand, 1) := by decide +kernel
theorem dX7_canBeGiven_50 : decode cX7_canBeGiven 50 = .ok (.iconst 1, 1) := by decide +kernel
theorem dX7_canBeGiven_51 : decode cX7_canBeGiven 51 = .ok (.if_icmp .ne 27, 3) := by decide +kernel
theorem dX7_canBeGiven_54 : decode cX7_canBeGiven 54 = .ok (.iload_n 3, 1) := by decide +kernel
theorem dX7_canBeGiven_55 : decode cX7_canBeGiven 55 = .ok (.iload 7, 2) := by decide +kernel
theorem dX7_canBeGiven_57 : decode cX7_canBeGiven 57 = .ok (.invokestatic 177, 3) := by decide +kernel
theorem dX7_canBeGiven_60 : decode cX7_canBeGiven 60 = .ok (.idiv, 1) := by decide +kernel
theorem dX7_canBeGiven_61 : decode cX7_canBeGiven 61 = .ok (.bipush 6, 2) := by decide +kernel
theorem dX7_canBeGiven_63 : decode cX7_canBeGiven 63 = .ok (.irem, 1) := by decide +kernel
theorem dX7_canBeGiven_64 : decode cX7_canBeGiven 64 = .ok (.aload_n 0, 1) := by decide +kernel
theorem dX7_canBeGiven_65 : decode cX7_canBeGiven 65 = .ok (.getfield 56, 3) := by decide +kernel
theorem dX7_canBeGiven_68 : decode cX7_canBeGiven 68 = .ok (.iload 7, 2) := by decide +kernel
theorem dX7_canBeGiven_70 : decode cX7_canBeGiven 70 = .ok (.iaload, 1) := by decide +kernel
theorem dX7_canBeGiven_71 : decode cX7_canBeGiven 71 = .ok (.if_icmp .ge 7, 3) := by decide +kernel
theorem dX7_canBeGiven_74 : decode cX7_canBeGiven 74 = .ok (.iconst 1, 1) := by decide +kernel
theorem dX7_canBeGiven_75 : decode cX7_canBeGiven 75 = .ok (.goto 4, 3) := by decide +kernel
theorem dX7_canBeGiven_78 : decode cX7_canBeGiven 78 = .ok (.iconst 0, 1) := by decide +kernel
theorem dX7_canBeGiven_79 : decode cX7_canBeGiven 79 = .ok (.istore 5, 2) := by decide +kernel
theorem dX7_canBeGiven_81 : decode cX7_canBeGiven 81 = .ok (.iinc 6 1, 3) := by decide +kernel
theorem dX7_canBeGiven_84 : decode cX7_canBeGiven 84 = .ok (.iinc 7 1, 3) := by decide +kernel
theorem dX7_canBeGiven_87 : decode cX7_canBeGiven 87 = .ok (.goto (-78), 3) := by decide +kernel
theorem dX7_canBeGiven_90 : decode cX7_canBeGiven 90 = .ok (.iload 5, 2) := by decide +kernel
theorem dX7_canBeGiven_92 : decode cX7_canBeGiven 92 = .ok (.ifCond .eq 14, 3) := by decide +kernel
theorem dX7_canBeGiven_95 : decode cX7_canBeGiven 95 = .ok (.iload 6, 2) := by decide +kernel
theorem dX7_canBeGiven_97 : decode cX7_canBeGiven 97 = .ok (.iload 4, 2) := by decide +kernel
theorem dX7_canBeGiven_99 : decode cX7_canBeGiven 99 = .ok (.if_icmp .ne 7, 3) := by decide +kernel
theorem dX7_canBeGiven_102 : decode cX7_canBeGiven 102 = .ok (.iconst 1, 1) := by decide +kernel
theorem dX7_canBeGiven_103 : decode cX7_canBeGiven 103 = .ok (.goto 4, 3) := by decide +kernel
theorem dX7_canBeGiven_106 : decode cX7_canBeGiven 106 = .ok (.iconst 0, 1) := by decide +kernel
theorem dX7_canBeGiven_107 : decode cX7_canBeGiven 107 = .ok (.ireturn, 1) := by decide +kernel
theorem dX7_costWith_0 : decode cX7_costWith 0 = .ok (.iload_n 3, 1) := by decide +kernel
theorem dX7_costWith_1 : decode cX7_costWith 1 = .ok (.istore 4, 2) := by decide +kernel
theorem dX7_costWith_3 : decode cX7_costWith 3 = .ok (.iconst 0, 1) := by decide +kernel
theorem dX7_costWith_4 : decode cX7_costWith 4 = .ok (.istore 5, 2) := by decide +kernel
theorem dX7_costWith_6 : decode cX7_costWith 6 = .ok (.iconst 0, 1) := by decide +kernel
theorem dX7_costWith_7 : decode cX7_costWith 7 = .ok (.istore 6, 2) := by decide +kernel
theorem dX7_costWith_9 : decode cX7_costWith 9 = .ok (.iload 6, 2) := by decide +kernel
theorem dX7_costWith_11 : decode cX7_costWith 11 = .ok (.iconst 4, 1) := by decide +kernel
theorem dX7_costWith_12 : decode cX7_costWith 12 = .ok (.if_icmp .ge 41, 3) := by decide +kernel
theorem dX7_costWith_15 : decode cX7_costWith 15 = .ok (.iload_n 1, 1) := by decide +kernel
theorem dX7_costWith_16 : decode cX7_costWith 16 = .ok (.iload 6, 2) := by decide +kernel
theorem dX7_costWith_18 : decode cX7_costWith 18 = .ok (.ishr, 1) := by decide +kernel
theorem dX7_costWith_19 : decode cX7_costWith 19 = .ok (.iconst 1, 1) := by decide +kernel
theorem dX7_costWith_20 : decode cX7_costWith 20 = .ok (.iand, 1) := by decide +kernel
theorem dX7_costWith_21 : decode cX7_costWith 21 = .ok (.iconst 1, 1) := by decide +kernel
theorem dX7_costWith_22 : decode cX7_costWith 22 = .ok (.if_icmp .ne 25, 3) := by decide +kernel
theorem dX7_costWith_25 : decode cX7_costWith 25 = .ok (.iload 4, 2) := by decide +kernel
theorem dX7_costWith_27 : decode cX7_costWith 27 = .ok (.iload 6, 2) := by decide +kernel
theorem dX7_costWith_29 : decode cX7_costWith 29 = .ok (.invokestatic 177, 3) := by decide +kernel
theorem dX7_costWith_32 : decode cX7_costWith 32 = .ok (.iadd, 1) := by decide +kernel
theorem dX7_costWith_33 : decode cX7_costWith 33 = .ok (.istore 4, 2) := by decide +kernel
theorem dX7_costWith_35 : decode cX7_costWith 35 = .ok (.iload 5, 2) := by decide +kernel
theorem dX7_costWith_37 : decode cX7_costWith 37 = .ok (.aload_n 0, 1) := by decide +kernel
theorem dX7_costWith_38 : decode cX7_costWith 38 = .ok (.getfield 59, 3) := by decide +kernel
theorem dX7_costWith_41 : decode cX7_costWith 41 = .ok (.iload 6, 2) := by decide +kernel
theorem dX7_costWith_43 : decode cX7_costWith 43 = .ok (.iaload, 1) := by decide +kernel
theorem dX7_costWith_44 : decode cX7_costWith 44 = .ok (.iadd, 1) := by decide +kernel
theorem dX7_costWith_45 : decode cX7_costWith 45 = .ok (.istore 5, 2) := by decide +kernel
theorem dX7_costWith_47 : decode cX7_costWith 47 = .ok (.iinc 6 1, 3) := by decide +kernel
theorem dX7_costWith_50 : decode cX7_costWith 50 = .ok (.goto (-41), 3) := by decide +kernel
theorem dX7_costWith_53 : decode cX7_costWith 53 = .ok (.iload 5, 2) := by decide +kernel
theorem dX7_costWith_55 : decode cX7_costWith 55 = .ok (.aload_n 0, 1) := by decide +kernel
theorem dX7_costWith_56 : decode cX7_costWith 56 = .ok (.getfield 74, 3) := by decide +kernel
theorem dX7_costWith_59 : decode cX7_costWith 59 = .ok (.sipush 1296, 3) := by decide +kernel
theorem dX7_costWith_62 : decode cX7_costWith 62 = .ok (.iload_n 2, 1) := by decide +kernel
theorem dX7_costWith_63 : decode cX7_costWith 63 = .ok (.iconst 1, 1) := by decide +kernel
theorem dX7_costWith_64 : decode cX7_costWith 64 = .ok (.iadd, 1) := by decide +kernel
theorem dX7_costWith_65 : decode cX7_costWith 65 = .ok (.imul, 1) := by decide +kernel
theorem dX7_costWith_66 : decode cX7_costWith 66 = .ok (.iload 4, 2) := by decide +kernel
theorem dX7_costWith_68 : decode cX7_costWith 68 = .ok (.iadd, 1) := by decide +kernel
theorem dX7_costWith_69 : decode cX7_costWith 69 = .ok (.iaload, 1) := by decide +kernel
theorem dX7_costWith_70 : decode cX7_costWith 70 = .ok (.iadd, 1) := by decide +kernel
theorem dX7_costWith_71 : decode cX7_costWith 71 = .ok (.ireturn, 1) := by decide +kernel
theorem dX7_findCosts_0 : decode cX7_findCosts 0 = .ok (.iconst 0, 1) := by decide +kernel
theorem dX7_findCosts_1 : decode cX7_findCosts 1 = .ok (.istore_n 2, 1) := by decide +kernel
theorem dX7_findCosts_2 : decode cX7_findCosts 2 = .ok (.iload_n 2, 1) := by decide +kernel
theorem dX7_findCosts_3 : decode cX7_findCosts 3 = .ok (.sipush 1296, 3) := by decide +kernel
theorem dX7_findCosts_6 : decode cX7_findCosts 6 = .ok (.if_icmp .ge 20, 3) := by decide +kernel
theorem dX7_findCosts_9 : decode cX7_findCosts 9 = .ok (.aload_n 0, 1) := by decide +kernel
theorem dX7_findCosts_10 : decode cX7_findCosts 10 = .ok (.getfield 74, 3) := by decide +kernel
theorem dX7_findCosts_13 : decode cX7_findCosts 13 = .ok (.sipush 6480, 3) := by decide +kernel
theorem dX7_findCosts_16 : decode cX7_findCosts 16 = .ok (.iload_n 2, 1) := by decide +kernel
theorem dX7_findCosts_17 : decode cX7_findCosts 17 = .ok (.iadd, 1) := by decide +kernel
theorem dX7_findCosts_18 : decode cX7_findCosts 18 = .ok (.iconst 0, 1) := by decide +kernel
theorem dX7_findCosts_19 : decode cX7_findCosts 19 = .ok (.iastore, 1) := by decide +kernel
theorem dX7_findCosts_20 : decode cX7_findCosts 20 = .ok (.iinc 2 1, 3) := by decide +kernel
theorem dX7_findCosts_23 : decode cX7_findCosts 23 = .ok (.goto (-21), 3) := by decide +kernel
theorem dX7_findCosts_26 : decode cX7_findCosts 26 = .ok (.iconst 4, 1) := by decide +kernel
theorem dX7_findCosts_27 : decode cX7_findCosts 27 = .ok (.istore_n 2, 1) := by decide +kernel
theorem dX7_findCosts_28 : decode cX7_findCosts 28 = .ok (.iload_n 2, 1) := by decide +kernel
theorem dX7_findCosts_29 : decode cX7_findCosts 29 = .ok (.ifCond .lt 113, 3) := by decide +kernel
theorem dX7_findCosts_32 : decode cX7_findCosts 32 = .ok (.aload_n 0, 1) := by decide +kernel
theorem dX7_findCosts_33 : decode cX7_findCosts 33 = .ok (.iload_n 1, 1) := by decide +kernel
theorem dX7_findCosts_34 : decode cX7_findCosts 34 = .ok (.iload_n 2, 1) := by decide +kernel
theorem dX7_findCosts_35 : decode cX7_findCosts 35 = .ok (.invokevirtual 174, 3) := by decide +kernel
theorem dX7_findCosts_38 : decode cX7_findCosts 38 = .ok (.istore_n 3, 1) := by decide +kernel
theorem dX7_findCosts_39 : decode cX7_findCosts 39 = .ok (.iconst 0, 1) := by decide +kernel
theorem dX7_findCosts_40 : decode cX7_findCosts 40 = .ok (.istore 4, 2) := by decide +kernel
theorem dX7_findCosts_42 : decode cX7_findCosts 42 = .ok (.iload 4, 2) := by decide +kernel
theorem dX7_findCosts_44 : decode cX7_findCosts 44 = .ok (.sipush 1296, 3) := by decide +kernel
theorem dX7_findCosts_47 : decode cX7_findCosts 47 = .ok (.if_icmp .ge 89, 3) := by decide +kernel
theorem dX7_findCosts_50 : decode cX7_findCosts 50 = .ok (.ldc 180, 2) := by decide +kernel
theorem dX7_findCosts_52 : decode cX7_findCosts 52 = .ok (.istore 5, 2) := by decide +kernel
theorem dX7_findCosts_54 : decode cX7_findCosts 54 = .ok (.iconst 0, 1) := by decide +kernel
theorem dX7_findCosts_55 : decode cX7_findCosts 55 = .ok (.istore 6, 2) := by decide +kernel
theorem dX7_findCosts_57 : decode cX7_findCosts 57 = .ok (.iload 6, 2) := by decide +kernel
theorem dX7_findCosts_59 : decode cX7_findCosts 59 = .ok (.bipush 16, 2) := by decide +kernel
theorem dX7_findCosts_61 : decode cX7_findCosts 61 = .ok (.if_icmp .ge 54, 3) := by decide +kernel
theorem dX7_findCosts_64 : decode cX7_findCosts 64 = .ok (.aload_n 0, 1) := by decide +kernel
theorem dX7_findCosts_65 : decode cX7_findCosts 65 = .ok (.iload 6, 2) := by decide +kernel
theorem dX7_findCosts_67 : decode cX7_findCosts 67 = .ok (.iload_n 2, 1) := by decide +kernel
theorem dX7_findCosts_68 : decode cX7_findCosts 68 = .ok (.iload 4, 2) := by decide +kernel
theorem dX7_findCosts_70 : decode cX7_findCosts 70 = .ok (.iload_n 3, 1) := by decide +kernel
theorem dX7_findCosts_71 : decode cX7_findCosts 71 = .ok (.invokevirtual 181, 3) := by decide +kernel
theorem dX7_findCosts_74 : decode cX7_findCosts 74 = .ok (.ifCond .eq 15, 3) := by decide +kernel
theorem dX7_findCosts_77 : decode cX7_findCosts 77 = .ok (.aload_n 0, 1) := by decide +kernel
theorem dX7_findCosts_78 : decode cX7_findCosts 78 = .ok (.iload 6, 2) := by decide +kernel
theorem dX7_findCosts_80 : decode cX7_findCosts 80 = .ok (.iload_n 2, 1) := by decide +kernel
theorem dX7_findCosts_81 : decode cX7_findCosts 81 = .ok (.iload 4, 2) := by decide +kernel
theorem dX7_findCosts_83 : decode cX7_findCosts 83 = .ok (.invokevirtual 184, 3) := by decide +kernel
theorem dX7_findCosts_86 : decode cX7_findCosts 86 = .ok (.goto 5, 3) := by decide +kernel
theorem dX7_findCosts_89 : decode cX7_findCosts 89 = .ok (.ldc 180, 2) := by decide +kernel
theorem dX7_findCosts_91 : decode cX7_findCosts 91 = .ok (.istore 7, 2) := by decide +kernel
theorem dX7_findCosts_93 : decode cX7_findCosts 93 = .ok (.iload 7, 2) := by decide +kernel
theorem dX7_findCosts_95 : decode cX7_findCosts 95 = .ok (.iload 5, 2) := by decide +kernel
theorem dX7_findCosts_97 : decode cX7_findCosts 97 = .ok (.if_icmp .ge 8, 3) := by decide +kernel
theorem dX7_findCosts_100 : decode cX7_findCosts 100 = .ok (.iload 7, 2) := by decide +kernel
theorem dX7_findCosts_102 : decode cX7_findCosts 102 = .ok (.goto 5, 3) := by decide +kernel
theorem dX7_findCosts_105 : decode cX7_findCosts 105 = .ok (.iload 5, 2) := by decide +kernel
theorem dX7_findCosts_107 : decode cX7_findCosts 107 = .ok (.istore 5, 2) := by decide +kernel
theorem dX7_findCosts_109 : decode cX7_findCosts 109 = .ok (.iinc 6 1, 3) := by decide +kernel
theorem dX7_findCosts_112 : decode cX7_findCosts 112 = .ok (.goto (-55), 3) := by decide +kernel
theorem dX7_findCosts_115 : decode cX7_findCosts 115 = .ok (.aload_n 0, 1) := by decide +kernel
theorem dX7_findCosts_116 : decode cX7_findCosts 116 = .ok (.getfield 74, 3) := by decide +kernel
theorem dX7_findCosts_119 : decode cX7_findCosts 119 = .ok (.sipush 1296, 3) := by decide +kernel
theorem dX7_findCosts_122 : decode cX7_findCosts 122 = .ok (.iload_n 2, 1) := by decide +kernel
theorem dX7_findCosts_123 : decode cX7_findCosts 123 = .ok (.imul, 1) := by decide +kernel
theorem dX7_findCosts_124 : decode cX7_findCosts 124 = .ok (.iload 4, 2) := by decide +kernel
theorem dX7_findCosts_126 : decode cX7_findCosts 126 = .ok (.iadd, 1) := by decide +kernel
theorem dX7_findCosts_127 : decode cX7_findCosts 127 = .ok (.iload 5, 2) := by decide +kernel
theorem dX7_findCosts_129 : decode cX7_findCosts 129 = .ok (.iastore, 1) := by decide +kernel
theorem dX7_findCosts_130 : decode cX7_findCosts 130 = .ok (.iinc 4 1, 3) := by decide +kernel
theorem dX7_findCosts_133 : decode cX7_findCosts 133 = .ok (.goto (-91), 3) := by decide +kernel
theorem dX7_findCosts_136 : decode cX7_findCosts 136 = .ok (.iinc 2 (-1), 3) := by decide +kernel
theorem dX7_findCosts_139 : decode cX7_findCosts 139 = .ok (.goto (-111), 3) := by decide +kernel
theorem dX7_findCosts_142 : decode cX7_findCosts 142 = .ok (.aload_n 0, 1) := by decide +kernel
theorem dX7_findCosts_143 : decode cX7_findCosts 143 = .ok (.getfield 74, 3) := by decide +kernel
theorem dX7_findCosts_146 : decode cX7_findCosts 146 = .ok (.iconst 0, 1) := by decide +kernel
theorem dX7_findCosts_147 : decode cX7_findCosts 147 = .ok (.iaload, 1) := by decide +kernel
theorem dX7_findCosts_148 : decode cX7_findCosts 148 = .ok (.ireturn, 1) := by decide +kernel
theorem dX7_cover_0 : decode cX7_cover 0 = .ok (.iload_n 1, 1) := by decide +kernel
theorem dX7_cover_1 : decode cX7_cover 1 = .ok (.invokestatic 151, 3) := by decide +kernel
theorem dX7_cover_4 : decode cX7_cover 4 = .ok (.ifCond .ne 5, 3) := by decide +kernel
theorem dX7_cover_7 : decode cX7_cover 7 = .ok (.iconst (-1), 1) := by decide +kernel
theorem dX7_cover_8 : decode cX7_cover 8 = .ok (.ireturn, 1) := by decide +kernel
theorem dX7_cover_9 : decode cX7_cover 9 = .ok (.aload_n 0, 1) := by decide +kernel
theorem dX7_cover_10 : decode cX7_cover 10 = .ok (.iload_n 1, 1) := by decide +kernel
theorem dX7_cover_11 : decode cX7_cover 11 = .ok (.invokevirtual 187, 3) := by decide +kernel
theorem dX7_cover_14 : decode cX7_cover 14 = .ok (.istore_n 2, 1) := by decide +kernel
theorem dX7_cover_15 : decode cX7_cover 15 = .ok (.iload_n 2, 1) := by decide +kernel
theorem dX7_cover_16 : decode cX7_cover 16 = .ok (.ldc 180, 2) := by decide +kernel
theorem dX7_cover_18 : decode cX7_cover 18 = .ok (.if_icmp .lt 6, 3) := by decide +kernel
theorem dX7_cover_21 : decode cX7_cover 21 = .ok (.bipush (-2), 2) := by decide +kernel
theorem dX7_cover_23 : decode cX7_cover 23 = .ok (.ireturn, 1) := by decide +kernel
theorem dX7_cover_24 : decode cX7_cover 24 = .ok (.iconst 0, 1) := by decide +kernel
theorem dX7_cover_25 : decode cX7_cover 25 = .ok (.istore_n 3, 1) := by decide +kernel
theorem dX7_cover_26 : decode cX7_cover 26 = .ok (.iconst 0, 1) := by decide +kernel
theorem dX7_cover_27 : decode cX7_cover 27 = .ok (.istore 4, 2) := by decide +kernel
theorem dX7_cover_29 : decode cX7_cover 29 = .ok (.iload 4, 2) := by decide +kernel
theorem dX7_cover_31 : decode cX7_cover 31 = .ok (.iconst 5, 1) := by decide +kernel
theorem dX7_cover_32 : decode cX7_cover 32 = .ok (.if_icmp .ge 106, 3) := by decide +kernel
theorem dX7_cover_35 : decode cX7_cover 35 = .ok (.aload_n 0, 1) := by decide +kernel
theorem dX7_cover_36 : decode cX7_cover 36 = .ok (.iload_n 1, 1) := by decide +kernel
theorem dX7_cover_37 : decode cX7_cover 37 = .ok (.iload 4, 2) := by decide +kernel
theorem dX7_cover_39 : decode cX7_cover 39 = .ok (.invokevirtual 174, 3) := by decide +kernel
theorem dX7_cover_42 : decode cX7_cover 42 = .ok (.istore 5, 2) := by decide +kernel
theorem dX7_cover_44 : decode cX7_cover 44 = .ok (.iconst 0, 1) := by decide +kernel
theorem dX7_cover_45 : decode cX7_cover 45 = .ok (.istore 6, 2) := by decide +kernel
theorem dX7_cover_47 : decode cX7_cover 47 = .ok (.aload_n 0, 1) := by decide +kernel
theorem dX7_cover_48 : decode cX7_cover 48 = .ok (.iload 6, 2) := by decide +kernel
theorem dX7_cover_50 : decode cX7_cover 50 = .ok (.iload 4, 2) := by decide +kernel
theorem dX7_cover_52 : decode cX7_cover 52 = .ok (.iload_n 3, 1) := by decide +kernel
theorem dX7_cover_53 : decode cX7_cover 53 = .ok (.iload 5, 2) := by decide +kernel
theorem dX7_cover_55 : decode cX7_cover 55 = .ok (.invokevirtual 181, 3) := by decide +kernel
theorem dX7_cover_58 : decode cX7_cover 58 = .ok (.ifCond .eq 28, 3) := by decide +kernel
theorem dX7_cover_61 : decode cX7_cover 61 = .ok (.aload_n 0, 1) := by decide +kernel
theorem dX7_cover_62 : decode cX7_cover 62 = .ok (.iload 6, 2) := by decide +kernel
theorem dX7_cover_64 : decode cX7_cover 64 = .ok (.iload 4, 2) := by decide +kernel
theorem dX7_cover_66 : decode cX7_cover 66 = .ok (.iload_n 3, 1) := by decide +kernel
theorem dX7_cover_67 : decode cX7_cover 67 = .ok (.invokevirtual 184, 3) := by decide +kernel
theorem dX7_cover_70 : decode cX7_cover 70 = .ok (.aload_n 0, 1) := by decide +kernel
theorem dX7_cover_71 : decode cX7_cover 71 = .ok (.getfield 74, 3) := by decide +kernel
theorem dX7_cover_74 : decode cX7_cover 74 = .ok (.sipush 1296, 3) := by decide +kernel
theorem dX7_cover_77 : decode cX7_cover 77 = .ok (.iload 4, 2) := by decide +kernel
theorem dX7_cover_79 : decode cX7_cover 79 = .ok (.imul, 1) := by decide +kernel
theorem dX7_cover_80 : decode cX7_cover 80 = .ok (.iload_n 3, 1) := by decide +kernel
theorem dX7_cover_81 : decode cX7_cover 81 = .ok (.iadd, 1) := by decide +kernel
theorem dX7_cover_82 : decode cX7_cover 82 = .ok (.iaload, 1) := by decide +kernel
theorem dX7_cover_83 : decode cX7_cover 83 = .ok (.if_icmp .eq 9, 3) := by decide +kernel
theorem dX7_cover_86 : decode cX7_cover 86 = .ok (.iinc 6 1, 3) := by decide +kernel
theorem dX7_cover_89 : decode cX7_cover 89 = .ok (.goto (-42), 3) := by decide +kernel
theorem dX7_cover_92 : decode cX7_cover 92 = .ok (.aload_n 0, 1) := by decide +kernel
theorem dX7_cover_93 : decode cX7_cover 93 = .ok (.getfield 62, 3) := by decide +kernel
theorem dX7_cover_96 : decode cX7_cover 96 = .ok (.iload 4, 2) := by decide +kernel
theorem dX7_cover_98 : decode cX7_cover 98 = .ok (.iload 6, 2) := by decide +kernel
theorem dX7_cover_100 : decode cX7_cover 100 = .ok (.iastore, 1) := by decide +kernel
theorem dX7_cover_101 : decode cX7_cover 101 = .ok (.iconst 0, 1) := by decide +kernel
theorem dX7_cover_102 : decode cX7_cover 102 = .ok (.istore 7, 2) := by decide +kernel
theorem dX7_cover_104 : decode cX7_cover 104 = .ok (.iload 7, 2) := by decide +kernel
theorem dX7_cover_106 : decode cX7_cover 106 = .ok (.iconst 4, 1) := by decide +kernel
theorem dX7_cover_107 : decode cX7_cover 107 = .ok (.if_icmp .ge 25, 3) := by decide +kernel
theorem dX7_cover_110 : decode cX7_cover 110 = .ok (.iload_n 3, 1) := by decide +kernel
theorem dX7_cover_111 : decode cX7_cover 111 = .ok (.iload 6, 2) := by decide +kernel
theorem dX7_cover_113 : decode cX7_cover 113 = .ok (.iload 7, 2) := by decide +kernel
theorem dX7_cover_115 : decode cX7_cover 115 = .ok (.ishr, 1) := by decide +kernel
theorem dX7_cover_116 : decode cX7_cover 116 = .ok (.iconst 1, 1) := by decide +kernel
theorem dX7_cover_117 : decode cX7_cover 117 = .ok (.iand, 1) := by decide +kernel
theorem dX7_cover_118 : decode cX7_cover 118 = .ok (.iload 7, 2) := by decide +kernel
theorem dX7_cover_120 : decode cX7_cover 120 = .ok (.invokestatic 177, 3) := by decide +kernel
theorem dX7_cover_123 : decode cX7_cover 123 = .ok (.imul, 1) := by decide +kernel
theorem dX7_cover_124 : decode cX7_cover 124 = .ok (.iadd, 1) := by decide +kernel
theorem dX7_cover_125 : decode cX7_cover 125 = .ok (.istore_n 3, 1) := by decide +kernel
theorem dX7_cover_126 : decode cX7_cover 126 = .ok (.iinc 7 1, 3) := by decide +kernel
theorem dX7_cover_129 : decode cX7_cover 129 = .ok (.goto (-25), 3) := by decide +kernel
theorem dX7_cover_132 : decode cX7_cover 132 = .ok (.iinc 4 1, 3) := by decide +kernel
theorem dX7_cover_135 : decode cX7_cover 135 = .ok (.goto (-106), 3) := by decide +kernel
theorem dX7_cover_138 : decode cX7_cover 138 = .ok (.iload_n 2, 1) := by decide +kernel
theorem dX7_cover_139 : decode cX7_cover 139 = .ok (.ireturn, 1) := by decide +kernel
theorem dX7_coverOf_0 : decode cX7_coverOf 0 = .ok (.iload_n 1, 1) := by decide +kernel
theorem dX7_coverOf_1 : decode cX7_coverOf 1 = .ok (.invokestatic 116, 3) := by decide +kernel
theorem dX7_coverOf_4 : decode cX7_coverOf 4 = .ok (.ifCond .eq 12, 3) := by decide +kernel
theorem dX7_coverOf_7 : decode cX7_coverOf 7 = .ok (.aload_n 0, 1) := by decide +kernel
theorem dX7_coverOf_8 : decode cX7_coverOf 8 = .ok (.getfield 62, 3) := by decide +kernel
theorem dX7_coverOf_11 : decode cX7_coverOf 11 = .ok (.iload_n 1, 1) := by decide +kernel
theorem dX7_coverOf_12 : decode cX7_coverOf 12 = .ok (.iaload, 1) := by decide +kernel
theorem dX7_coverOf_13 : decode cX7_coverOf 13 = .ok (.goto 4, 3) := by decide +kernel
theorem dX7_coverOf_16 : decode cX7_coverOf 16 = .ok (.iconst (-1), 1) := by decide +kernel
theorem dX7_coverOf_17 : decode cX7_coverOf 17 = .ok (.ireturn, 1) := by decide +kernel
theorem dX7_cheapestHoliday_0 : decode cX7_cheapestHoliday 0 = .ok (.aload_n 0, 1) := by decide +kernel
theorem dX7_cheapestHoliday_1 : decode cX7_cheapestHoliday 1 = .ok (.iload_n 1, 1) := by decide +kernel
theorem dX7_cheapestHoliday_2 : decode cX7_cheapestHoliday 2 = .ok (.invokevirtual 148, 3) := by decide +kernel
theorem dX7_cheapestHoliday_5 : decode cX7_cheapestHoliday 5 = .ok (.ifCond .ne 5, 3) := by decide +kernel
theorem dX7_cheapestHoliday_8 : decode cX7_cheapestHoliday 8 = .ok (.iconst (-1), 1) := by decide +kernel
theorem dX7_cheapestHoliday_9 : decode cX7_cheapestHoliday 9 = .ok (.ireturn, 1) := by decide +kernel
theorem dX7_cheapestHoliday_10 : decode cX7_cheapestHoliday 10 = .ok (.bipush (-9), 2) := by decide +kernel
theorem dX7_cheapestHoliday_12 : decode cX7_cheapestHoliday 12 = .ok (.istore_n 2, 1) := by decide +kernel
theorem dX7_cheapestHoliday_13 : decode cX7_cheapestHoliday 13 = .ok (.ldc 180, 2) := by decide +kernel
theorem dX7_cheapestHoliday_15 : decode cX7_cheapestHoliday 15 = .ok (.istore_n 3, 1) := by decide +kernel
theorem dX7_cheapestHoliday_16 : decode cX7_cheapestHoliday 16 = .ok (.iconst 0, 1) := by decide +kernel
theorem dX7_cheapestHoliday_17 : decode cX7_cheapestHoliday 17 = .ok (.istore 4, 2) := by decide +kernel
theorem dX7_cheapestHoliday_19 : decode cX7_cheapestHoliday 19 = .ok (.iload 4, 2) := by decide +kernel
theorem dX7_cheapestHoliday_21 : decode cX7_cheapestHoliday 21 = .ok (.bipush 52, 2) := by decide +kernel
theorem dX7_cheapestHoliday_23 : decode cX7_cheapestHoliday 23 = .ok (.if_icmp .ge 84, 3) := by decide +kernel
theorem dX7_cheapestHoliday_26 : decode cX7_cheapestHoliday 26 = .ok (.aload_n 0, 1) := by decide +kernel
theorem dX7_cheapestHoliday_27 : decode cX7_cheapestHoliday 27 = .ok (.getfield 40, 3) := by decide +kernel
theorem dX7_cheapestHoliday_30 : decode cX7_cheapestHoliday 30 = .ok (.bipush 52, 2) := by decide +kernel
theorem dX7_cheapestHoliday_32 : decode cX7_cheapestHoliday 32 = .ok (.iload_n 1, 1) := by decide +kernel
theorem dX7_cheapestHoliday_33 : decode cX7_cheapestHoliday 33 = .ok (.imul, 1) := by decide +kernel
theorem dX7_cheapestHoliday_34 : decode cX7_cheapestHoliday 34 = .ok (.iload 4, 2) := by decide +kernel
theorem dX7_cheapestHoliday_36 : decode cX7_cheapestHoliday 36 = .ok (.iadd, 1) := by decide +kernel
theorem dX7_cheapestHoliday_37 : decode cX7_cheapestHoliday 37 = .ok (.iaload, 1) := by decide +kernel
theorem dX7_cheapestHoliday_38 : decode cX7_cheapestHoliday 38 = .ok (.ifCond .ne 63, 3) := by decide +kernel
theorem dX7_cheapestHoliday_41 : decode cX7_cheapestHoliday 41 = .ok (.aload_n 0, 1) := by decide +kernel
theorem dX7_cheapestHoliday_42 : decode cX7_cheapestHoliday 42 = .ok (.getfield 40, 3) := by decide +kernel
theorem dX7_cheapestHoliday_45 : decode cX7_cheapestHoliday 45 = .ok (.bipush 52, 2) := by decide +kernel
theorem dX7_cheapestHoliday_47 : decode cX7_cheapestHoliday 47 = .ok (.iload_n 1, 1) := by decide +kernel
theorem dX7_cheapestHoliday_48 : decode cX7_cheapestHoliday 48 = .ok (.imul, 1) := by decide +kernel
theorem dX7_cheapestHoliday_49 : decode cX7_cheapestHoliday 49 = .ok (.iload 4, 2) := by decide +kernel
theorem dX7_cheapestHoliday_51 : decode cX7_cheapestHoliday 51 = .ok (.iadd, 1) := by decide +kernel
theorem dX7_cheapestHoliday_52 : decode cX7_cheapestHoliday 52 = .ok (.iconst 1, 1) := by decide +kernel
theorem dX7_cheapestHoliday_53 : decode cX7_cheapestHoliday 53 = .ok (.iastore, 1) := by decide +kernel
theorem dX7_cheapestHoliday_54 : decode cX7_cheapestHoliday 54 = .ok (.aload_n 0, 1) := by decide +kernel
theorem dX7_cheapestHoliday_55 : decode cX7_cheapestHoliday 55 = .ok (.iload 4, 2) := by decide +kernel
theorem dX7_cheapestHoliday_57 : decode cX7_cheapestHoliday 57 = .ok (.invokevirtual 187, 3) := by decide +kernel
theorem dX7_cheapestHoliday_60 : decode cX7_cheapestHoliday 60 = .ok (.istore 5, 2) := by decide +kernel
theorem dX7_cheapestHoliday_62 : decode cX7_cheapestHoliday 62 = .ok (.aload_n 0, 1) := by decide +kernel
theorem dX7_cheapestHoliday_63 : decode cX7_cheapestHoliday 63 = .ok (.getfield 40, 3) := by decide +kernel
theorem dX7_cheapestHoliday_66 : decode cX7_cheapestHoliday 66 = .ok (.bipush 52, 2) := by decide +kernel
theorem dX7_cheapestHoliday_68 : decode cX7_cheapestHoliday 68 = .ok (.iload_n 1, 1) := by decide +kernel
theorem dX7_cheapestHoliday_69 : decode cX7_cheapestHoliday 69 = .ok (.imul, 1) := by decide +kernel
theorem dX7_cheapestHoliday_70 : decode cX7_cheapestHoliday 70 = .ok (.iload 4, 2) := by decide +kernel
theorem dX7_cheapestHoliday_72 : decode cX7_cheapestHoliday 72 = .ok (.iadd, 1) := by decide +kernel
theorem dX7_cheapestHoliday_73 : decode cX7_cheapestHoliday 73 = .ok (.iconst 0, 1) := by decide +kernel
theorem dX7_cheapestHoliday_74 : decode cX7_cheapestHoliday 74 = .ok (.iastore, 1) := by decide +kernel
theorem dX7_cheapestHoliday_75 : decode cX7_cheapestHoliday 75 = .ok (.iload 5, 2) := by decide +kernel
theorem dX7_cheapestHoliday_77 : decode cX7_cheapestHoliday 77 = .ok (.iload_n 3, 1) := by decide +kernel
theorem dX7_cheapestHoliday_78 : decode cX7_cheapestHoliday 78 = .ok (.if_icmp .ge 8, 3) := by decide +kernel
theorem dX7_cheapestHoliday_81 : decode cX7_cheapestHoliday 81 = .ok (.iload 4, 2) := by decide +kernel
theorem dX7_cheapestHoliday_83 : decode cX7_cheapestHoliday 83 = .ok (.goto 4, 3) := by decide +kernel
theorem dX7_cheapestHoliday_86 : decode cX7_cheapestHoliday 86 = .ok (.iload_n 2, 1) := by decide +kernel
theorem dX7_cheapestHoliday_87 : decode cX7_cheapestHoliday 87 = .ok (.istore_n 2, 1) := by decide +kernel
theorem dX7_cheapestHoliday_88 : decode cX7_cheapestHoliday 88 = .ok (.iload 5, 2) := by decide +kernel
theorem dX7_cheapestHoliday_90 : decode cX7_cheapestHoliday 90 = .ok (.iload_n 3, 1) := by decide +kernel
theorem dX7_cheapestHoliday_91 : decode cX7_cheapestHoliday 91 = .ok (.if_icmp .ge 8, 3) := by decide +kernel
theorem dX7_cheapestHoliday_94 : decode cX7_cheapestHoliday 94 = .ok (.iload 5, 2) := by decide +kernel
theorem dX7_cheapestHoliday_96 : decode cX7_cheapestHoliday 96 = .ok (.goto 4, 3) := by decide +kernel
theorem dX7_cheapestHoliday_99 : decode cX7_cheapestHoliday 99 = .ok (.iload_n 3, 1) := by decide +kernel
theorem dX7_cheapestHoliday_100 : decode cX7_cheapestHoliday 100 = .ok (.istore_n 3, 1) := by decide +kernel
theorem dX7_cheapestHoliday_101 : decode cX7_cheapestHoliday 101 = .ok (.iinc 4 1, 3) := by decide +kernel
theorem dX7_cheapestHoliday_104 : decode cX7_cheapestHoliday 104 = .ok (.goto (-85), 3) := by decide +kernel
theorem dX7_cheapestHoliday_107 : decode cX7_cheapestHoliday 107 = .ok (.iload_n 2, 1) := by decide +kernel
theorem dX7_cheapestHoliday_108 : decode cX7_cheapestHoliday 108 = .ok (.ireturn, 1) := by decide +kernel
theorem dX7_type_0 : decode cX7_type 0 = .ok (.iload_n 1, 1) := by decide +kernel
theorem dX7_type_1 : decode cX7_type 1 = .ok (.bipush 32, 2) := by decide +kernel
theorem dX7_type_3 : decode cX7_type 3 = .ok (.bipush 126, 2) := by decide +kernel
theorem dX7_type_5 : decode cX7_type 5 = .ok (.invokestatic 77, 3) := by decide +kernel
theorem dX7_type_8 : decode cX7_type 8 = .ok (.ifCond .ne 5, 3) := by decide +kernel
theorem dX7_type_11 : decode cX7_type 11 = .ok (.iconst (-1), 1) := by decide +kernel
theorem dX7_type_12 : decode cX7_type 12 = .ok (.ireturn, 1) := by decide +kernel
theorem dX7_type_13 : decode cX7_type 13 = .ok (.aload_n 0, 1) := by decide +kernel
theorem dX7_type_14 : decode cX7_type 14 = .ok (.getfield 190, 3) := by decide +kernel
theorem dX7_type_17 : decode cX7_type 17 = .ok (.bipush 60, 2) := by decide +kernel
theorem dX7_type_19 : decode cX7_type 19 = .ok (.if_icmp .ne 6, 3) := by decide +kernel
theorem dX7_type_22 : decode cX7_type 22 = .ok (.bipush (-3), 2) := by decide +kernel
theorem dX7_type_24 : decode cX7_type 24 = .ok (.ireturn, 1) := by decide +kernel
theorem dX7_type_25 : decode cX7_type 25 = .ok (.aload_n 0, 1) := by decide +kernel
theorem dX7_type_26 : decode cX7_type 26 = .ok (.getfield 65, 3) := by decide +kernel
theorem dX7_type_29 : decode cX7_type 29 = .ok (.aload_n 0, 1) := by decide +kernel
theorem dX7_type_30 : decode cX7_type 30 = .ok (.getfield 190, 3) := by decide +kernel
theorem dX7_type_33 : decode cX7_type 33 = .ok (.iload_n 1, 1) := by decide +kernel
theorem dX7_type_34 : decode cX7_type 34 = .ok (.iastore, 1) := by decide +kernel
theorem dX7_type_35 : decode cX7_type 35 = .ok (.aload_n 0, 1) := by decide +kernel
theorem dX7_type_36 : decode cX7_type 36 = .ok (.dup, 1) := by decide +kernel
theorem dX7_type_37 : decode cX7_type 37 = .ok (.getfield 190, 3) := by decide +kernel
theorem dX7_type_40 : decode cX7_type 40 = .ok (.iconst 1, 1) := by decide +kernel
theorem dX7_type_41 : decode cX7_type 41 = .ok (.iadd, 1) := by decide +kernel
theorem dX7_type_42 : decode cX7_type 42 = .ok (.putfield 190, 3) := by decide +kernel
theorem dX7_type_45 : decode cX7_type 45 = .ok (.aload_n 0, 1) := by decide +kernel
theorem dX7_type_46 : decode cX7_type 46 = .ok (.getfield 190, 3) := by decide +kernel
theorem dX7_type_49 : decode cX7_type 49 = .ok (.ireturn, 1) := by decide +kernel
theorem dX7_clearText_0 : decode cX7_clearText 0 = .ok (.aload_n 0, 1) := by decide +kernel
theorem dX7_clearText_1 : decode cX7_clearText 1 = .ok (.getfield 190, 3) := by decide +kernel
theorem dX7_clearText_4 : decode cX7_clearText 4 = .ok (.istore_n 1, 1) := by decide +kernel
theorem dX7_clearText_5 : decode cX7_clearText 5 = .ok (.aload_n 0, 1) := by decide +kernel
theorem dX7_clearText_6 : decode cX7_clearText 6 = .ok (.iconst 0, 1) := by decide +kernel
theorem dX7_clearText_7 : decode cX7_clearText 7 = .ok (.putfield 190, 3) := by decide +kernel
theorem dX7_clearText_10 : decode cX7_clearText 10 = .ok (.iload_n 1, 1) := by decide +kernel
theorem dX7_clearText_11 : decode cX7_clearText 11 = .ok (.ireturn, 1) := by decide +kernel
theorem dX7_character_0 : decode cX7_character 0 = .ok (.iload_n 1, 1) := by decide +kernel
theorem dX7_character_1 : decode cX7_character 1 = .ok (.aload_n 0, 1) := by decide +kernel
theorem dX7_character_2 : decode cX7_character 2 = .ok (.getfield 190, 3) := by decide +kernel
theorem dX7_character_5 : decode cX7_character 5 = .ok (.if_icmp .ge 24, 3) := by decide +kernel
theorem dX7_character_8 : decode cX7_character 8 = .ok (.aload_n 0, 1) := by decide +kernel
theorem dX7_character_9 : decode cX7_character 9 = .ok (.getfield 65, 3) := by decide +kernel
theorem dX7_character_12 : decode cX7_character 12 = .ok (.iload_n 1, 1) := by decide +kernel
theorem dX7_character_13 : decode cX7_character 13 = .ok (.iaload, 1) := by decide +kernel
theorem dX7_character_14 : decode cX7_character 14 = .ok (.iload_n 2, 1) := by decide +kernel
theorem dX7_character_15 : decode cX7_character 15 = .ok (.if_icmp .lt 14, 3) := by decide +kernel
theorem dX7_character_18 : decode cX7_character 18 = .ok (.aload_n 0, 1) := by decide +kernel
theorem dX7_character_19 : decode cX7_character 19 = .ok (.getfield 65, 3) := by decide +kernel
theorem dX7_character_22 : decode cX7_character 22 = .ok (.iload_n 1, 1) := by decide +kernel
theorem dX7_character_23 : decode cX7_character 23 = .ok (.iaload, 1) := by decide +kernel
theorem dX7_character_24 : decode cX7_character 24 = .ok (.iload_n 2, 1) := by decide +kernel
theorem dX7_character_25 : decode cX7_character 25 = .ok (.isub, 1) := by decide +kernel
theorem dX7_character_26 : decode cX7_character 26 = .ok (.goto 4, 3) := by decide +kernel
theorem dX7_character_29 : decode cX7_character 29 = .ok (.iconst (-1), 1) := by decide +kernel
theorem dX7_character_30 : decode cX7_character 30 = .ok (.ireturn, 1) := by decide +kernel
theorem dX7_readText_0 : decode cX7_readText 0 = .ok (.iconst 0, 1) := by decide +kernel
theorem dX7_readText_1 : decode cX7_readText 1 = .ok (.istore_n 1, 1) := by decide +kernel
theorem dX7_readText_2 : decode cX7_readText 2 = .ok (.iconst (-1), 1) := by decide +kernel
theorem dX7_readText_3 : decode cX7_readText 3 = .ok (.istore_n 2, 1) := by decide +kernel
theorem dX7_readText_4 : decode cX7_readText 4 = .ok (.iconst 0, 1) := by decide +kernel
theorem dX7_readText_5 : decode cX7_readText 5 = .ok (.istore_n 3, 1) := by decide +kernel
theorem dX7_readText_6 : decode cX7_readText 6 = .ok (.iload_n 3, 1) := by decide +kernel
theorem dX7_readText_7 : decode cX7_readText 7 = .ok (.iconst 5, 1) := by decide +kernel
theorem dX7_readText_8 : decode cX7_readText 8 = .ok (.if_icmp .ge 23, 3) := by decide +kernel
theorem dX7_readText_11 : decode cX7_readText 11 = .ok (.aload_n 0, 1) := by decide +kernel
theorem dX7_readText_12 : decode cX7_readText 12 = .ok (.getfield 68, 3) := by decide +kernel
theorem dX7_readText_15 : decode cX7_readText 15 = .ok (.iload_n 3, 1) := by decide +kernel
theorem dX7_readText_16 : decode cX7_readText 16 = .ok (.iconst 0, 1) := by decide +kernel
theorem dX7_readText_17 : decode cX7_readText 17 = .ok (.iastore, 1) := by decide +kernel
theorem dX7_readText_18 : decode cX7_readText 18 = .ok (.aload_n 0, 1) := by decide +kernel
theorem dX7_readText_19 : decode cX7_readText 19 = .ok (.getfield 71, 3) := by decide +kernel
theorem dX7_readText_22 : decode cX7_readText 22 = .ok (.iload_n 3, 1) := by decide +kernel
theorem dX7_readText_23 : decode cX7_readText 23 = .ok (.iconst 0, 1) := by decide +kernel
theorem dX7_readText_24 : decode cX7_readText 24 = .ok (.iastore, 1) := by decide +kernel
theorem dX7_readText_25 : decode cX7_readText 25 = .ok (.iinc 3 1, 3) := by decide +kernel
theorem dX7_readText_28 : decode cX7_readText 28 = .ok (.goto (-22), 3) := by decide +kernel
theorem dX7_readText_31 : decode cX7_readText 31 = .ok (.iload_n 1, 1) := by decide +kernel
theorem dX7_readText_32 : decode cX7_readText 32 = .ok (.aload_n 0, 1) := by decide +kernel
theorem dX7_readText_33 : decode cX7_readText 33 = .ok (.getfield 190, 3) := by decide +kernel
theorem dX7_readText_36 : decode cX7_readText 36 = .ok (.if_icmp .ge 119, 3) := by decide +kernel
theorem dX7_readText_39 : decode cX7_readText 39 = .ok (.aload_n 0, 1) := by decide +kernel
theorem dX7_readText_40 : decode cX7_readText 40 = .ok (.iload_n 1, 1) := by decide +kernel
theorem dX7_readText_41 : decode cX7_readText 41 = .ok (.bipush 48, 2) := by decide +kernel
theorem dX7_readText_43 : decode cX7_readText 43 = .ok (.invokevirtual 193, 3) := by decide +kernel
theorem dX7_readText_46 : decode cX7_readText 46 = .ok (.istore_n 3, 1) := by decide +kernel
theorem dX7_readText_47 : decode cX7_readText 47 = .ok (.iload_n 3, 1) := by decide +kernel
theorem dX7_readText_48 : decode cX7_readText 48 = .ok (.iload_n 2, 1) := by decide +kernel
theorem dX7_readText_49 : decode cX7_readText 49 = .ok (.iconst 1, 1) := by decide +kernel
theorem dX7_readText_50 : decode cX7_readText 50 = .ok (.iadd, 1) := by decide +kernel
theorem dX7_readText_51 : decode cX7_readText 51 = .ok (.iconst 4, 1) := by decide +kernel
theorem dX7_readText_52 : decode cX7_readText 52 = .ok (.invokestatic 77, 3) := by decide +kernel
theorem dX7_readText_55 : decode cX7_readText 55 = .ok (.ifCond .ne 5, 3) := by decide +kernel
theorem dX7_readText_58 : decode cX7_readText 58 = .ok (.iload_n 1, 1) := by decide +kernel
theorem dX7_readText_59 : decode cX7_readText 59 = .ok (.ireturn, 1) := by decide +kernel
theorem dX7_readText_60 : decode cX7_readText 60 = .ok (.aload_n 0, 1) := by decide +kernel
theorem dX7_readText_61 : decode cX7_readText 61 = .ok (.iload_n 1, 1) := by decide +kernel
theorem dX7_readText_62 : decode cX7_readText 62 = .ok (.iconst 1, 1) := by decide +kernel
theorem dX7_readText_63 : decode cX7_readText 63 = .ok (.iadd, 1) := by decide +kernel
theorem dX7_readText_64 : decode cX7_readText 64 = .ok (.bipush 97, 2) := by decide +kernel
theorem dX7_readText_66 : decode cX7_readText 66 = .ok (.invokevirtual 193, 3) := by decide +kernel
theorem dX7_readText_69 : decode cX7_readText 69 = .ok (.istore 4, 2) := by decide +kernel
theorem dX7_readText_71 : decode cX7_readText 71 = .ok (.iload 4, 2) := by decide +kernel
theorem dX7_readText_73 : decode cX7_readText 73 = .ok (.iconst 0, 1) := by decide +kernel
theorem dX7_readText_74 : decode cX7_readText 74 = .ok (.bipush 9, 2) := by decide +kernel
theorem dX7_readText_76 : decode cX7_readText 76 = .ok (.invokestatic 77, 3) := by decide +kernel
theorem dX7_readText_79 : decode cX7_readText 79 = .ok (.ifCond .ne 7, 3) := by decide +kernel
theorem dX7_readText_82 : decode cX7_readText 82 = .ok (.iload_n 1, 1) := by decide +kernel
theorem dX7_readText_83 : decode cX7_readText 83 = .ok (.iconst 1, 1) := by decide +kernel
theorem dX7_readText_84 : decode cX7_readText 84 = .ok (.iadd, 1) := by decide +kernel
theorem dX7_readText_85 : decode cX7_readText 85 = .ok (.ireturn, 1) := by decide +kernel
theorem dX7_readText_86 : decode cX7_readText 86 = .ok (.aload_n 0, 1) := by decide +kernel
theorem dX7_readText_87 : decode cX7_readText 87 = .ok (.iload_n 1, 1) := by decide +kernel
theorem dX7_readText_88 : decode cX7_readText 88 = .ok (.iconst 2, 1) := by decide +kernel
theorem dX7_readText_89 : decode cX7_readText 89 = .ok (.iadd, 1) := by decide +kernel
theorem dX7_readText_90 : decode cX7_readText 90 = .ok (.bipush 97, 2) := by decide +kernel
theorem dX7_readText_92 : decode cX7_readText 92 = .ok (.invokevirtual 193, 3) := by decide +kernel
theorem dX7_readText_95 : decode cX7_readText 95 = .ok (.istore 5, 2) := by decide +kernel
theorem dX7_readText_97 : decode cX7_readText 97 = .ok (.iload 5, 2) := by decide +kernel
theorem dX7_readText_99 : decode cX7_readText 99 = .ok (.iload 4, 2) := by decide +kernel
theorem dX7_readText_101 : decode cX7_readText 101 = .ok (.iconst 1, 1) := by decide +kernel
theorem dX7_readText_102 : decode cX7_readText 102 = .ok (.iadd, 1) := by decide +kernel
theorem dX7_readText_103 : decode cX7_readText 103 = .ok (.bipush 10, 2) := by decide +kernel
theorem dX7_readText_105 : decode cX7_readText 105 = .ok (.invokestatic 77, 3) := by decide +kernel
theorem dX7_readText_108 : decode cX7_readText 108 = .ok (.ifCond .ne 7, 3) := by decide +kernel
theorem dX7_readText_111 : decode cX7_readText 111 = .ok (.iload_n 1, 1) := by decide +kernel
theorem dX7_readText_112 : decode cX7_readText 112 = .ok (.iconst 2, 1) := by decide +kernel
theorem dX7_readText_113 : decode cX7_readText 113 = .ok (.iadd, 1) := by decide +kernel
theorem dX7_readText_114 : decode cX7_readText 114 = .ok (.ireturn, 1) := by decide +kernel
theorem dX7_readText_115 : decode cX7_readText 115 = .ok (.aload_n 0, 1) := by decide +kernel
theorem dX7_readText_116 : decode cX7_readText 116 = .ok (.iload_n 1, 1) := by decide +kernel
theorem dX7_readText_117 : decode cX7_readText 117 = .ok (.iconst 3, 1) := by decide +kernel
theorem dX7_readText_118 : decode cX7_readText 118 = .ok (.iadd, 1) := by decide +kernel
theorem dX7_readText_119 : decode cX7_readText 119 = .ok (.bipush 59, 2) := by decide +kernel
theorem dX7_readText_121 : decode cX7_readText 121 = .ok (.invokevirtual 193, 3) := by decide +kernel
theorem dX7_readText_124 : decode cX7_readText 124 = .ok (.ifCond .eq 7, 3) := by decide +kernel
theorem dX7_readText_127 : decode cX7_readText 127 = .ok (.iload_n 1, 1) := by decide +kernel
theorem dX7_readText_128 : decode cX7_readText 128 = .ok (.iconst 3, 1) := by decide +kernel
theorem dX7_readText_129 : decode cX7_readText 129 = .ok (.iadd, 1) := by decide +kernel
theorem dX7_readText_130 : decode cX7_readText 130 = .ok (.ireturn, 1) := by decide +kernel
theorem dX7_readText_131 : decode cX7_readText 131 = .ok (.aload_n 0, 1) := by decide +kernel
theorem dX7_readText_132 : decode cX7_readText 132 = .ok (.getfield 68, 3) := by decide +kernel
theorem dX7_readText_135 : decode cX7_readText 135 = .ok (.iload_n 3, 1) := by decide +kernel
theorem dX7_readText_136 : decode cX7_readText 136 = .ok (.iload 4, 2) := by decide +kernel
theorem dX7_readText_138 : decode cX7_readText 138 = .ok (.iastore, 1) := by decide +kernel
theorem dX7_readText_139 : decode cX7_readText 139 = .ok (.aload_n 0, 1) := by decide +kernel
theorem dX7_readText_140 : decode cX7_readText 140 = .ok (.getfield 71, 3) := by decide +kernel
theorem dX7_readText_143 : decode cX7_readText 143 = .ok (.iload_n 3, 1) := by decide +kernel
theorem dX7_readText_144 : decode cX7_readText 144 = .ok (.iload 5, 2) := by decide +kernel
theorem dX7_readText_146 : decode cX7_readText 146 = .ok (.iastore, 1) := by decide +kernel
theorem dX7_readText_147 : decode cX7_readText 147 = .ok (.iload_n 3, 1) := by decide +kernel
theorem dX7_readText_148 : decode cX7_readText 148 = .ok (.istore_n 2, 1) := by decide +kernel
theorem dX7_readText_149 : decode cX7_readText 149 = .ok (.iinc 1 4, 3) := by decide +kernel
theorem dX7_readText_152 : decode cX7_readText 152 = .ok (.goto (-121), 3) := by decide +kernel
theorem dX7_readText_155 : decode cX7_readText 155 = .ok (.bipush (-9), 2) := by decide +kernel
theorem dX7_readText_157 : decode cX7_readText 157 = .ok (.ireturn, 1) := by decide +kernel
theorem dX7_loadBookings_0 : decode cX7_loadBookings 0 = .ok (.aload_n 0, 1) := by decide +kernel
theorem dX7_loadBookings_1 : decode cX7_loadBookings 1 = .ok (.iload_n 1, 1) := by decide +kernel
theorem dX7_loadBookings_2 : decode cX7_loadBookings 2 = .ok (.invokevirtual 85, 3) := by decide +kernel
theorem dX7_loadBookings_5 : decode cX7_loadBookings 5 = .ok (.ifCond .ne 5, 3) := by decide +kernel
theorem dX7_loadBookings_8 : decode cX7_loadBookings 8 = .ok (.iconst (-1), 1) := by decide +kernel
theorem dX7_loadBookings_9 : decode cX7_loadBookings 9 = .ok (.ireturn, 1) := by decide +kernel
theorem dX7_loadBookings_10 : decode cX7_loadBookings 10 = .ok (.aload_n 0, 1) := by decide +kernel
theorem dX7_loadBookings_11 : decode cX7_loadBookings 11 = .ok (.invokevirtual 196, 3) := by decide +kernel
theorem dX7_loadBookings_14 : decode cX7_loadBookings 14 = .ok (.istore_n 2, 1) := by decide +kernel
theorem dX7_loadBookings_15 : decode cX7_loadBookings 15 = .ok (.iload_n 2, 1) := by decide +kernel
theorem dX7_loadBookings_16 : decode cX7_loadBookings 16 = .ok (.bipush (-9), 2) := by decide +kernel
theorem dX7_loadBookings_18 : decode cX7_loadBookings 18 = .ok (.if_icmp .eq 8, 3) := by decide +kernel
theorem dX7_loadBookings_21 : decode cX7_loadBookings 21 = .ok (.bipush (-10), 2) := by decide +kernel
theorem dX7_loadBookings_23 : decode cX7_loadBookings 23 = .ok (.iload_n 2, 1) := by decide +kernel
theorem dX7_loadBookings_24 : decode cX7_loadBookings 24 = .ok (.isub, 1) := by decide +kernel
theorem dX7_loadBookings_25 : decode cX7_loadBookings 25 = .ok (.ireturn, 1) := by decide +kernel
theorem dX7_loadBookings_26 : decode cX7_loadBookings 26 = .ok (.iconst 1, 1) := by decide +kernel
theorem dX7_loadBookings_27 : decode cX7_loadBookings 27 = .ok (.istore_n 3, 1) := by decide +kernel
theorem dX7_loadBookings_28 : decode cX7_loadBookings 28 = .ok (.iconst 0, 1) := by decide +kernel
theorem dX7_loadBookings_29 : decode cX7_loadBookings 29 = .ok (.istore 4, 2) := by decide +kernel
theorem dX7_loadBookings_31 : decode cX7_loadBookings 31 = .ok (.iload 4, 2) := by decide +kernel
theorem dX7_loadBookings_33 : decode cX7_loadBookings 33 = .ok (.iconst 5, 1) := by decide +kernel
theorem dX7_loadBookings_34 : decode cX7_loadBookings 34 = .ok (.if_icmp .ge 53, 3) := by decide +kernel
theorem dX7_loadBookings_37 : decode cX7_loadBookings 37 = .ok (.aload_n 0, 1) := by decide +kernel
theorem dX7_loadBookings_38 : decode cX7_loadBookings 38 = .ok (.getfield 19, 3) := by decide +kernel
theorem dX7_loadBookings_41 : decode cX7_loadBookings 41 = .ok (.iload_n 1, 1) := by decide +kernel
theorem dX7_loadBookings_42 : decode cX7_loadBookings 42 = .ok (.iaload, 1) := by decide +kernel
theorem dX7_loadBookings_43 : decode cX7_loadBookings 43 = .ok (.iconst 1, 1) := by decide +kernel
theorem dX7_loadBookings_44 : decode cX7_loadBookings 44 = .ok (.if_icmp .ne 43, 3) := by decide +kernel
theorem dX7_loadBookings_47 : decode cX7_loadBookings 47 = .ok (.iload_n 3, 1) := by decide +kernel
theorem dX7_loadBookings_48 : decode cX7_loadBookings 48 = .ok (.ifCond .eq 31, 3) := by decide +kernel
theorem dX7_loadBookings_51 : decode cX7_loadBookings 51 = .ok (.aload_n 0, 1) := by decide +kernel
theorem dX7_loadBookings_52 : decode cX7_loadBookings 52 = .ok (.iload_n 1, 1) := by decide +kernel
theorem dX7_loadBookings_53 : decode cX7_loadBookings 53 = .ok (.iload 4, 2) := by decide +kernel
theorem dX7_loadBookings_55 : decode cX7_loadBookings 55 = .ok (.aload_n 0, 1) := by decide +kernel
theorem dX7_loadBookings_56 : decode cX7_loadBookings 56 = .ok (.getfield 68, 3) := by decide +kernel
theorem dX7_loadBookings_59 : decode cX7_loadBookings 59 = .ok (.iload 4, 2) := by decide +kernel
theorem dX7_loadBookings_61 : decode cX7_loadBookings 61 = .ok (.iaload, 1) := by decide +kernel
theorem dX7_loadBookings_62 : decode cX7_loadBookings 62 = .ok (.aload_n 0, 1) := by decide +kernel
theorem dX7_loadBookings_63 : decode cX7_loadBookings 63 = .ok (.getfield 71, 3) := by decide +kernel
theorem dX7_loadBookings_66 : decode cX7_loadBookings 66 = .ok (.iload 4, 2) := by decide +kernel
theorem dX7_loadBookings_68 : decode cX7_loadBookings 68 = .ok (.iaload, 1) := by decide +kernel
theorem dX7_loadBookings_69 : decode cX7_loadBookings 69 = .ok (.invokevirtual 123, 3) := by decide +kernel
theorem dX7_loadBookings_72 : decode cX7_loadBookings 72 = .ok (.ifCond .eq 7, 3) := by decide +kernel
theorem dX7_loadBookings_75 : decode cX7_loadBookings 75 = .ok (.iconst 1, 1) := by decide +kernel
theorem dX7_loadBookings_76 : decode cX7_loadBookings 76 = .ok (.goto 4, 3) := by decide +kernel
theorem dX7_loadBookings_79 : decode cX7_loadBookings 79 = .ok (.iconst 0, 1) := by decide +kernel
theorem dX7_loadBookings_80 : decode cX7_loadBookings 80 = .ok (.istore_n 3, 1) := by decide +kernel
theorem dX7_loadBookings_81 : decode cX7_loadBookings 81 = .ok (.iinc 4 1, 3) := by decide +kernel
theorem dX7_loadBookings_84 : decode cX7_loadBookings 84 = .ok (.goto (-53), 3) := by decide +kernel
theorem dX7_loadBookings_87 : decode cX7_loadBookings 87 = .ok (.iload_n 3, 1) := by decide +kernel
theorem dX7_loadBookings_88 : decode cX7_loadBookings 88 = .ok (.ifCond .ne 6, 3) := by decide +kernel
theorem dX7_loadBookings_91 : decode cX7_loadBookings 91 = .ok (.bipush (-3), 2) := by decide +kernel
theorem dX7_loadBookings_93 : decode cX7_loadBookings 93 = .ok (.ireturn, 1) := by decide +kernel
theorem dX7_loadBookings_94 : decode cX7_loadBookings 94 = .ok (.iconst 0, 1) := by decide +kernel
theorem dX7_loadBookings_95 : decode cX7_loadBookings 95 = .ok (.istore 4, 2) := by decide +kernel
theorem dX7_loadBookings_97 : decode cX7_loadBookings 97 = .ok (.iload 4, 2) := by decide +kernel
theorem dX7_loadBookings_99 : decode cX7_loadBookings 99 = .ok (.iconst 5, 1) := by decide +kernel
theorem dX7_loadBookings_100 : decode cX7_loadBookings 100 = .ok (.if_icmp .ge 45, 3) := by decide +kernel
theorem dX7_loadBookings_103 : decode cX7_loadBookings 103 = .ok (.aload_n 0, 1) := by decide +kernel
theorem dX7_loadBookings_104 : decode cX7_loadBookings 104 = .ok (.getfield 25, 3) := by decide +kernel
theorem dX7_loadBookings_107 : decode cX7_loadBookings 107 = .ok (.iconst 5, 1) := by decide +kernel
theorem dX7_loadBookings_108 : decode cX7_loadBookings 108 = .ok (.iload_n 1, 1) := by decide +kernel
theorem dX7_loadBookings_109 : decode cX7_loadBookings 109 = .ok (.imul, 1) := by decide +kernel
theorem dX7_loadBookings_110 : decode cX7_loadBookings 110 = .ok (.iload 4, 2) := by decide +kernel
theorem dX7_loadBookings_112 : decode cX7_loadBookings 112 = .ok (.iadd, 1) := by decide +kernel
theorem dX7_loadBookings_113 : decode cX7_loadBookings 113 = .ok (.aload_n 0, 1) := by decide +kernel
theorem dX7_loadBookings_114 : decode cX7_loadBookings 114 = .ok (.getfield 68, 3) := by decide +kernel
theorem dX7_loadBookings_117 : decode cX7_loadBookings 117 = .ok (.iload 4, 2) := by decide +kernel
theorem dX7_loadBookings_119 : decode cX7_loadBookings 119 = .ok (.iaload, 1) := by decide +kernel
theorem dX7_loadBookings_120 : decode cX7_loadBookings 120 = .ok (.iastore, 1) := by decide +kernel
theorem dX7_loadBookings_121 : decode cX7_loadBookings 121 = .ok (.aload_n 0, 1) := by decide +kernel
theorem dX7_loadBookings_122 : decode cX7_loadBookings 122 = .ok (.getfield 28, 3) := by decide +kernel
theorem dX7_loadBookings_125 : decode cX7_loadBookings 125 = .ok (.iconst 5, 1) := by decide +kernel
theorem dX7_loadBookings_126 : decode cX7_loadBookings 126 = .ok (.iload_n 1, 1) := by decide +kernel
theorem dX7_loadBookings_127 : decode cX7_loadBookings 127 = .ok (.imul, 1) := by decide +kernel
theorem dX7_loadBookings_128 : decode cX7_loadBookings 128 = .ok (.iload 4, 2) := by decide +kernel
theorem dX7_loadBookings_130 : decode cX7_loadBookings 130 = .ok (.iadd, 1) := by decide +kernel
theorem dX7_loadBookings_131 : decode cX7_loadBookings 131 = .ok (.aload_n 0, 1) := by decide +kernel
theorem dX7_loadBookings_132 : decode cX7_loadBookings 132 = .ok (.getfield 71, 3) := by decide +kernel
theorem dX7_loadBookings_135 : decode cX7_loadBookings 135 = .ok (.iload 4, 2) := by decide +kernel
theorem dX7_loadBookings_137 : decode cX7_loadBookings 137 = .ok (.iaload, 1) := by decide +kernel
theorem dX7_loadBookings_138 : decode cX7_loadBookings 138 = .ok (.iastore, 1) := by decide +kernel
theorem dX7_loadBookings_139 : decode cX7_loadBookings 139 = .ok (.iinc 4 1, 3) := by decide +kernel
theorem dX7_loadBookings_142 : decode cX7_loadBookings 142 = .ok (.goto (-45), 3) := by decide +kernel
theorem dX7_loadBookings_145 : decode cX7_loadBookings 145 = .ok (.aload_n 0, 1) := by decide +kernel
theorem dX7_loadBookings_146 : decode cX7_loadBookings 146 = .ok (.iload_n 1, 1) := by decide +kernel
theorem dX7_loadBookings_147 : decode cX7_loadBookings 147 = .ok (.invokevirtual 89, 3) := by decide +kernel
theorem dX7_loadBookings_150 : decode cX7_loadBookings 150 = .ok (.ireturn, 1) := by decide +kernel
theorem dX7_digest_0 : decode cX7_digest 0 = .ok (.ldc2_w 199, 3) := by decide +kernel
theorem dX7_digest_3 : decode cX7_digest 3 = .ok (.aload_n 0, 1) := by decide +kernel
theorem dX7_digest_4 : decode cX7_digest 4 = .ok (.getfield 127, 3) := by decide +kernel
theorem dX7_digest_7 : decode cX7_digest 7 = .ok (.i2l, 1) := by decide +kernel
theorem dX7_digest_8 : decode cX7_digest 8 = .ok (.ladd, 1) := by decide +kernel
theorem dX7_digest_9 : decode cX7_digest 9 = .ok (.lstore_n 1, 1) := by decide +kernel
theorem dX7_digest_10 : decode cX7_digest 10 = .ok (.ldc2_w 201, 3) := by decide +kernel
theorem dX7_digest_13 : decode cX7_digest 13 = .ok (.lload_n 1, 1) := by decide +kernel
theorem dX7_digest_14 : decode cX7_digest 14 = .ok (.lmul, 1) := by decide +kernel
theorem dX7_digest_15 : decode cX7_digest 15 = .ok (.aload_n 0, 1) := by decide +kernel
theorem dX7_digest_16 : decode cX7_digest 16 = .ok (.invokevirtual 81, 3) := by decide +kernel
theorem dX7_digest_19 : decode cX7_digest 19 = .ok (.i2l, 1) := by decide +kernel
theorem dX7_digest_20 : decode cX7_digest 20 = .ok (.ladd, 1) := by decide +kernel
theorem dX7_digest_21 : decode cX7_digest 21 = .ok (.lstore_n 1, 1) := by decide +kernel
theorem dX7_digest_22 : decode cX7_digest 22 = .ok (.iconst 0, 1) := by decide +kernel
theorem dX7_digest_23 : decode cX7_digest 23 = .ok (.istore_n 3, 1) := by decide +kernel
theorem dX7_digest_24 : decode cX7_digest 24 = .ok (.iload_n 3, 1) := by decide +kernel
theorem dX7_digest_25 : decode cX7_digest 25 = .ok (.bipush 24, 2) := by decide +kernel
theorem dX7_digest_27 : decode cX7_digest 27 = .ok (.if_icmp .ge 100, 3) := by decide +kernel
theorem dX7_digest_30 : decode cX7_digest 30 = .ok (.aload_n 0, 1) := by decide +kernel
theorem dX7_digest_31 : decode cX7_digest 31 = .ok (.getfield 7, 3) := by decide +kernel
theorem dX7_digest_34 : decode cX7_digest 34 = .ok (.iload_n 3, 1) := by decide +kernel
theorem dX7_digest_35 : decode cX7_digest 35 = .ok (.iaload, 1) := by decide +kernel
theorem dX7_digest_36 : decode cX7_digest 36 = .ok (.iconst 1, 1) := by decide +kernel
theorem dX7_digest_37 : decode cX7_digest 37 = .ok (.if_icmp .ne 84, 3) := by decide +kernel
theorem dX7_digest_40 : decode cX7_digest 40 = .ok (.ldc2_w 201, 3) := by decide +kernel
theorem dX7_digest_43 : decode cX7_digest 43 = .ok (.lload_n 1, 1) := by decide +kernel
theorem dX7_digest_44 : decode cX7_digest 44 = .ok (.lmul, 1) := by decide +kernel
theorem dX7_digest_45 : decode cX7_digest 45 = .ok (.iload_n 3, 1) := by decide +kernel
theorem dX7_digest_46 : decode cX7_digest 46 = .ok (.i2l, 1) := by decide +kernel
theorem dX7_digest_47 : decode cX7_digest 47 = .ok (.ladd, 1) := by decide +kernel
theorem dX7_digest_48 : decode cX7_digest 48 = .ok (.lstore_n 1, 1) := by decide +kernel
theorem dX7_digest_49 : decode cX7_digest 49 = .ok (.ldc2_w 201, 3) := by decide +kernel
theorem dX7_digest_52 : decode cX7_digest 52 = .ok (.lload_n 1, 1) := by decide +kernel
theorem dX7_digest_53 : decode cX7_digest 53 = .ok (.lmul, 1) := by decide +kernel
theorem dX7_digest_54 : decode cX7_digest 54 = .ok (.aload_n 0, 1) := by decide +kernel
theorem dX7_digest_55 : decode cX7_digest 55 = .ok (.getfield 13, 3) := by decide +kernel
theorem dX7_digest_58 : decode cX7_digest 58 = .ok (.iload_n 3, 1) := by decide +kernel
theorem dX7_digest_59 : decode cX7_digest 59 = .ok (.iaload, 1) := by decide +kernel
theorem dX7_digest_60 : decode cX7_digest 60 = .ok (.i2l, 1) := by decide +kernel
theorem dX7_digest_61 : decode cX7_digest 61 = .ok (.ladd, 1) := by decide +kernel
theorem dX7_digest_62 : decode cX7_digest 62 = .ok (.lstore_n 1, 1) := by decide +kernel
theorem dX7_digest_63 : decode cX7_digest 63 = .ok (.ldc2_w 201, 3) := by decide +kernel
theorem dX7_digest_66 : decode cX7_digest 66 = .ok (.lload_n 1, 1) := by decide +kernel
theorem dX7_digest_67 : decode cX7_digest 67 = .ok (.lmul, 1) := by decide +kernel
theorem dX7_digest_68 : decode cX7_digest 68 = .ok (.aload_n 0, 1) := by decide +kernel
theorem dX7_digest_69 : decode cX7_digest 69 = .ok (.getfield 19, 3) := by decide +kernel
theorem dX7_digest_72 : decode cX7_digest 72 = .ok (.iload_n 3, 1) := by decide +kernel
theorem dX7_digest_73 : decode cX7_digest 73 = .ok (.iaload, 1) := by decide +kernel
theorem dX7_digest_74 : decode cX7_digest 74 = .ok (.i2l, 1) := by decide +kernel
theorem dX7_digest_75 : decode cX7_digest 75 = .ok (.ladd, 1) := by decide +kernel
theorem dX7_digest_76 : decode cX7_digest 76 = .ok (.lstore_n 1, 1) := by decide +kernel
theorem dX7_digest_77 : decode cX7_digest 77 = .ok (.ldc2_w 201, 3) := by decide +kernel
theorem dX7_digest_80 : decode cX7_digest 80 = .ok (.lload_n 1, 1) := by decide +kernel
theorem dX7_digest_81 : decode cX7_digest 81 = .ok (.lmul, 1) := by decide +kernel
theorem dX7_digest_82 : decode cX7_digest 82 = .ok (.aload_n 0, 1) := by decide +kernel
theorem dX7_digest_83 : decode cX7_digest 83 = .ok (.iload_n 3, 1) := by decide +kernel
theorem dX7_digest_84 : decode cX7_digest 84 = .ok (.invokevirtual 89, 3) := by decide +kernel
theorem dX7_digest_87 : decode cX7_digest 87 = .ok (.i2l, 1) := by decide +kernel
theorem dX7_digest_88 : decode cX7_digest 88 = .ok (.ladd, 1) := by decide +kernel
theorem dX7_digest_89 : decode cX7_digest 89 = .ok (.lstore_n 1, 1) := by decide +kernel
theorem dX7_digest_90 : decode cX7_digest 90 = .ok (.ldc2_w 201, 3) := by decide +kernel
theorem dX7_digest_93 : decode cX7_digest 93 = .ok (.lload_n 1, 1) := by decide +kernel
theorem dX7_digest_94 : decode cX7_digest 94 = .ok (.lmul, 1) := by decide +kernel
theorem dX7_digest_95 : decode cX7_digest 95 = .ok (.aload_n 0, 1) := by decide +kernel
theorem dX7_digest_96 : decode cX7_digest 96 = .ok (.getfield 19, 3) := by decide +kernel
theorem dX7_digest_99 : decode cX7_digest 99 = .ok (.iload_n 3, 1) := by decide +kernel
theorem dX7_digest_100 : decode cX7_digest 100 = .ok (.iaload, 1) := by decide +kernel
theorem dX7_digest_101 : decode cX7_digest 101 = .ok (.iconst 1, 1) := by decide +kernel
theorem dX7_digest_102 : decode cX7_digest 102 = .ok (.if_icmp .ne 11, 3) := by decide +kernel
theorem dX7_digest_105 : decode cX7_digest 105 = .ok (.aload_n 0, 1) := by decide +kernel
theorem dX7_digest_106 : decode cX7_digest 106 = .ok (.iload_n 3, 1) := by decide +kernel
theorem dX7_digest_107 : decode cX7_digest 107 = .ok (.invokevirtual 165, 3) := by decide +kernel
theorem dX7_digest_110 : decode cX7_digest 110 = .ok (.goto 8, 3) := by decide +kernel
theorem dX7_digest_113 : decode cX7_digest 113 = .ok (.aload_n 0, 1) := by decide +kernel
theorem dX7_digest_114 : decode cX7_digest 114 = .ok (.iload_n 3, 1) := by decide +kernel
theorem dX7_digest_115 : decode cX7_digest 115 = .ok (.invokevirtual 130, 3) := by decide +kernel
theorem dX7_digest_118 : decode cX7_digest 118 = .ok (.i2l, 1) := by decide +kernel
theorem dX7_digest_119 : decode cX7_digest 119 = .ok (.ladd, 1) := by decide +kernel
theorem dX7_digest_120 : decode cX7_digest 120 = .ok (.lstore_n 1, 1) := by decide +kernel
theorem dX7_digest_121 : decode cX7_digest 121 = .ok (.iinc 3 1, 3) := by decide +kernel
theorem dX7_digest_124 : decode cX7_digest 124 = .ok (.goto (-100), 3) := by decide +kernel
theorem dX7_digest_127 : decode cX7_digest 127 = .ok (.ldc2_w 201, 3) := by decide +kernel
theorem dX7_digest_130 : decode cX7_digest 130 = .ok (.lload_n 1, 1) := by decide +kernel
theorem dX7_digest_131 : decode cX7_digest 131 = .ok (.lmul, 1) := by decide +kernel
theorem dX7_digest_132 : decode cX7_digest 132 = .ok (.aload_n 0, 1) := by decide +kernel
theorem dX7_digest_133 : decode cX7_digest 133 = .ok (.invokevirtual 145, 3) := by decide +kernel
theorem dX7_digest_136 : decode cX7_digest 136 = .ok (.i2l, 1) := by decide +kernel
theorem dX7_digest_137 : decode cX7_digest 137 = .ok (.ladd, 1) := by decide +kernel
theorem dX7_digest_138 : decode cX7_digest 138 = .ok (.lstore_n 1, 1) := by decide +kernel
theorem dX7_digest_139 : decode cX7_digest 139 = .ok (.iconst 0, 1) := by decide +kernel
theorem dX7_digest_140 : decode cX7_digest 140 = .ok (.istore_n 3, 1) := by decide +kernel
theorem dX7_digest_141 : decode cX7_digest 141 = .ok (.iload_n 3, 1) := by decide +kernel
theorem dX7_digest_142 : decode cX7_digest 142 = .ok (.iconst 5, 1) := by decide +kernel
theorem dX7_digest_143 : decode cX7_digest 143 = .ok (.if_icmp .ge 74, 3) := by decide +kernel
theorem dX7_digest_146 : decode cX7_digest 146 = .ok (.iconst 0, 1) := by decide +kernel
theorem dX7_digest_147 : decode cX7_digest 147 = .ok (.istore 4, 2) := by decide +kernel
theorem dX7_digest_149 : decode cX7_digest 149 = .ok (.iload 4, 2) := by decide +kernel
theorem dX7_digest_151 : decode cX7_digest 151 = .ok (.bipush 10, 2) := by decide +kernel
theorem dX7_digest_153 : decode cX7_digest 153 = .ok (.if_icmp .ge 58, 3) := by decide +kernel
theorem dX7_digest_156 : decode cX7_digest 156 = .ok (.ldc2_w 201, 3) := by decide +kernel
theorem dX7_digest_159 : decode cX7_digest 159 = .ok (.lload_n 1, 1) := by decide +kernel
theorem dX7_digest_160 : decode cX7_digest 160 = .ok (.lmul, 1) := by decide +kernel
theorem dX7_digest_161 : decode cX7_digest 161 = .ok (.aload_n 0, 1) := by decide +kernel
theorem dX7_digest_162 : decode cX7_digest 162 = .ok (.iload_n 3, 1) := by decide +kernel
theorem dX7_digest_163 : decode cX7_digest 163 = .ok (.iload 4, 2) := by decide +kernel
theorem dX7_digest_165 : decode cX7_digest 165 = .ok (.bipush (-9), 2) := by decide +kernel
theorem dX7_digest_167 : decode cX7_digest 167 = .ok (.invokevirtual 102, 3) := by decide +kernel
theorem dX7_digest_170 : decode cX7_digest 170 = .ok (.i2l, 1) := by decide +kernel
theorem dX7_digest_171 : decode cX7_digest 171 = .ok (.ladd, 1) := by decide +kernel
theorem dX7_digest_172 : decode cX7_digest 172 = .ok (.lstore_n 1, 1) := by decide +kernel
theorem dX7_digest_173 : decode cX7_digest 173 = .ok (.ldc2_w 201, 3) := by decide +kernel
theorem dX7_digest_176 : decode cX7_digest 176 = .ok (.lload_n 1, 1) := by decide +kernel
theorem dX7_digest_177 : decode cX7_digest 177 = .ok (.lmul, 1) := by decide +kernel
theorem dX7_digest_178 : decode cX7_digest 178 = .ok (.aload_n 0, 1) := by decide +kernel
theorem dX7_digest_179 : decode cX7_digest 179 = .ok (.iload_n 3, 1) := by decide +kernel
theorem dX7_digest_180 : decode cX7_digest 180 = .ok (.iload 4, 2) := by decide +kernel
theorem dX7_digest_182 : decode cX7_digest 182 = .ok (.bipush (-9), 2) := by decide +kernel
theorem dX7_digest_184 : decode cX7_digest 184 = .ok (.invokevirtual 106, 3) := by decide +kernel
theorem dX7_digest_187 : decode cX7_digest 187 = .ok (.i2l, 1) := by decide +kernel
theorem dX7_digest_188 : decode cX7_digest 188 = .ok (.ladd, 1) := by decide +kernel
theorem dX7_digest_189 : decode cX7_digest 189 = .ok (.lstore_n 1, 1) := by decide +kernel
theorem dX7_digest_190 : decode cX7_digest 190 = .ok (.ldc2_w 201, 3) := by decide +kernel
theorem dX7_digest_193 : decode cX7_digest 193 = .ok (.lload_n 1, 1) := by decide +kernel
theorem dX7_digest_194 : decode cX7_digest 194 = .ok (.lmul, 1) := by decide +kernel
theorem dX7_digest_195 : decode cX7_digest 195 = .ok (.aload_n 0, 1) := by decide +kernel
theorem dX7_digest_196 : decode cX7_digest 196 = .ok (.iload_n 3, 1) := by decide +kernel
theorem dX7_digest_197 : decode cX7_digest 197 = .ok (.iload 4, 2) := by decide +kernel
theorem dX7_digest_199 : decode cX7_digest 199 = .ok (.invokevirtual 109, 3) := by decide +kernel
theorem dX7_digest_202 : decode cX7_digest 202 = .ok (.i2l, 1) := by decide +kernel
theorem dX7_digest_203 : decode cX7_digest 203 = .ok (.ladd, 1) := by decide +kernel
theorem dX7_digest_204 : decode cX7_digest 204 = .ok (.lstore_n 1, 1) := by decide +kernel
theorem dX7_digest_205 : decode cX7_digest 205 = .ok (.iinc 4 1, 3) := by decide +kernel
theorem dX7_digest_208 : decode cX7_digest 208 = .ok (.goto (-59), 3) := by decide +kernel
theorem dX7_digest_211 : decode cX7_digest 211 = .ok (.iinc 3 1, 3) := by decide +kernel
theorem dX7_digest_214 : decode cX7_digest 214 = .ok (.goto (-73), 3) := by decide +kernel
theorem dX7_digest_217 : decode cX7_digest 217 = .ok (.ldc2_w 201, 3) := by decide +kernel
theorem dX7_digest_220 : decode cX7_digest 220 = .ok (.lload_n 1, 1) := by decide +kernel
theorem dX7_digest_221 : decode cX7_digest 221 = .ok (.lmul, 1) := by decide +kernel
theorem dX7_digest_222 : decode cX7_digest 222 = .ok (.aload_n 0, 1) := by decide +kernel
theorem dX7_digest_223 : decode cX7_digest 223 = .ok (.invokevirtual 160, 3) := by decide +kernel
theorem dX7_digest_226 : decode cX7_digest 226 = .ok (.i2l, 1) := by decide +kernel
theorem dX7_digest_227 : decode cX7_digest 227 = .ok (.ladd, 1) := by decide +kernel
theorem dX7_digest_228 : decode cX7_digest 228 = .ok (.lstore_n 1, 1) := by decide +kernel
theorem dX7_digest_229 : decode cX7_digest 229 = .ok (.ldc2_w 201, 3) := by decide +kernel
theorem dX7_digest_232 : decode cX7_digest 232 = .ok (.lload_n 1, 1) := by decide +kernel
theorem dX7_digest_233 : decode cX7_digest 233 = .ok (.lmul, 1) := by decide +kernel
theorem dX7_digest_234 : decode cX7_digest 234 = .ok (.aload_n 0, 1) := by decide +kernel
theorem dX7_digest_235 : decode cX7_digest 235 = .ok (.bipush (-9), 2) := by decide +kernel
theorem dX7_digest_237 : decode cX7_digest 237 = .ok (.invokevirtual 168, 3) := by decide +kernel
theorem dX7_digest_240 : decode cX7_digest 240 = .ok (.i2l, 1) := by decide +kernel
theorem dX7_digest_241 : decode cX7_digest 241 = .ok (.ladd, 1) := by decide +kernel
theorem dX7_digest_242 : decode cX7_digest 242 = .ok (.lstore_n 1, 1) := by decide +kernel
theorem dX7_digest_243 : decode cX7_digest 243 = .ok (.iconst 0, 1) := by decide +kernel
theorem dX7_digest_244 : decode cX7_digest 244 = .ok (.istore_n 3, 1) := by decide +kernel
theorem dX7_digest_245 : decode cX7_digest 245 = .ok (.iload_n 3, 1) := by decide +kernel
theorem dX7_digest_246 : decode cX7_digest 246 = .ok (.iconst 5, 1) := by decide +kernel
theorem dX7_digest_247 : decode cX7_digest 247 = .ok (.if_icmp .ge 23, 3) := by decide +kernel
theorem dX7_digest_250 : decode cX7_digest 250 = .ok (.ldc2_w 201, 3) := by decide +kernel
theorem dX7_digest_253 : decode cX7_digest 253 = .ok (.lload_n 1, 1) := by decide +kernel
theorem dX7_digest_254 : decode cX7_digest 254 = .ok (.lmul, 1) := by decide +kernel
theorem dX7_digest_255 : decode cX7_digest 255 = .ok (.aload_n 0, 1) := by decide +kernel
theorem dX7_digest_256 : decode cX7_digest 256 = .ok (.getfield 62, 3) := by decide +kernel
theorem dX7_digest_259 : decode cX7_digest 259 = .ok (.iload_n 3, 1) := by decide +kernel
theorem dX7_digest_260 : decode cX7_digest 260 = .ok (.iaload, 1) := by decide +kernel
theorem dX7_digest_261 : decode cX7_digest 261 = .ok (.i2l, 1) := by decide +kernel
theorem dX7_digest_262 : decode cX7_digest 262 = .ok (.ladd, 1) := by decide +kernel
theorem dX7_digest_263 : decode cX7_digest 263 = .ok (.lstore_n 1, 1) := by decide +kernel
theorem dX7_digest_264 : decode cX7_digest 264 = .ok (.iinc 3 1, 3) := by decide +kernel
theorem dX7_digest_267 : decode cX7_digest 267 = .ok (.goto (-22), 3) := by decide +kernel
theorem dX7_digest_270 : decode cX7_digest 270 = .ok (.iconst 0, 1) := by decide +kernel
theorem dX7_digest_271 : decode cX7_digest 271 = .ok (.istore_n 3, 1) := by decide +kernel
theorem dX7_digest_272 : decode cX7_digest 272 = .ok (.iload_n 3, 1) := by decide +kernel
theorem dX7_digest_273 : decode cX7_digest 273 = .ok (.iconst 5, 1) := by decide +kernel
theorem dX7_digest_274 : decode cX7_digest 274 = .ok (.if_icmp .ge 23, 3) := by decide +kernel
theorem dX7_digest_277 : decode cX7_digest 277 = .ok (.ldc2_w 201, 3) := by decide +kernel
theorem dX7_digest_280 : decode cX7_digest 280 = .ok (.lload_n 1, 1) := by decide +kernel
theorem dX7_digest_281 : decode cX7_digest 281 = .ok (.lmul, 1) := by decide +kernel
theorem dX7_digest_282 : decode cX7_digest 282 = .ok (.aload_n 0, 1) := by decide +kernel
theorem dX7_digest_283 : decode cX7_digest 283 = .ok (.iconst 0, 1) := by decide +kernel
theorem dX7_digest_284 : decode cX7_digest 284 = .ok (.iload_n 3, 1) := by decide +kernel
theorem dX7_digest_285 : decode cX7_digest 285 = .ok (.invokevirtual 174, 3) := by decide +kernel
theorem dX7_digest_288 : decode cX7_digest 288 = .ok (.i2l, 1) := by decide +kernel
theorem dX7_digest_289 : decode cX7_digest 289 = .ok (.ladd, 1) := by decide +kernel
theorem dX7_digest_290 : decode cX7_digest 290 = .ok (.lstore_n 1, 1) := by decide +kernel
theorem dX7_digest_291 : decode cX7_digest 291 = .ok (.iinc 3 1, 3) := by decide +kernel
theorem dX7_digest_294 : decode cX7_digest 294 = .ok (.goto (-22), 3) := by decide +kernel
theorem dX7_digest_297 : decode cX7_digest 297 = .ok (.ldc2_w 201, 3) := by decide +kernel
theorem dX7_digest_300 : decode cX7_digest 300 = .ok (.lload_n 1, 1) := by decide +kernel
theorem dX7_digest_301 : decode cX7_digest 301 = .ok (.lmul, 1) := by decide +kernel
theorem dX7_digest_302 : decode cX7_digest 302 = .ok (.aload_n 0, 1) := by decide +kernel
theorem dX7_digest_303 : decode cX7_digest 303 = .ok (.getfield 190, 3) := by decide +kernel
theorem dX7_digest_306 : decode cX7_digest 306 = .ok (.i2l, 1) := by decide +kernel
theorem dX7_digest_307 : decode cX7_digest 307 = .ok (.ladd, 1) := by decide +kernel
theorem dX7_digest_308 : decode cX7_digest 308 = .ok (.lreturn, 1) := by decide +kernel
theorem dJ6_bitCount_0f7a4_0 : decode cJ6_bitCount_0f7a4 0 = .ok (.iload_n 0, 1) := by decide +kernel
theorem dJ6_bitCount_0f7a4_1 : decode cJ6_bitCount_0f7a4 1 = .ok (.iload_n 0, 1) := by decide +kernel
theorem dJ6_bitCount_0f7a4_2 : decode cJ6_bitCount_0f7a4 2 = .ok (.iconst 1, 1) := by decide +kernel
theorem dJ6_bitCount_0f7a4_3 : decode cJ6_bitCount_0f7a4 3 = .ok (.iushr, 1) := by decide +kernel
theorem dJ6_bitCount_0f7a4_4 : decode cJ6_bitCount_0f7a4 4 = .ok (.ldc_w 265, 3) := by decide +kernel
theorem dJ6_bitCount_0f7a4_7 : decode cJ6_bitCount_0f7a4 7 = .ok (.iand, 1) := by decide +kernel
theorem dJ6_bitCount_0f7a4_8 : decode cJ6_bitCount_0f7a4 8 = .ok (.isub, 1) := by decide +kernel
theorem dJ6_bitCount_0f7a4_9 : decode cJ6_bitCount_0f7a4 9 = .ok (.istore_n 0, 1) := by decide +kernel
theorem dJ6_bitCount_0f7a4_10 : decode cJ6_bitCount_0f7a4 10 = .ok (.iload_n 0, 1) := by decide +kernel
theorem dJ6_bitCount_0f7a4_11 : decode cJ6_bitCount_0f7a4 11 = .ok (.ldc_w 266, 3) := by decide +kernel
theorem dJ6_bitCount_0f7a4_14 : decode cJ6_bitCount_0f7a4 14 = .ok (.iand, 1) := by decide +kernel
theorem dJ6_bitCount_0f7a4_15 : decode cJ6_bitCount_0f7a4 15 = .ok (.iload_n 0, 1) := by decide +kernel
theorem dJ6_bitCount_0f7a4_16 : decode cJ6_bitCount_0f7a4 16 = .ok (.iconst 2, 1) := by decide +kernel
theorem dJ6_bitCount_0f7a4_17 : decode cJ6_bitCount_0f7a4 17 = .ok (.iushr, 1) := by decide +kernel
theorem dJ6_bitCount_0f7a4_18 : decode cJ6_bitCount_0f7a4 18 = .ok (.ldc_w 266, 3) := by decide +kernel
theorem dJ6_bitCount_0f7a4_21 : decode cJ6_bitCount_0f7a4 21 = .ok (.iand, 1) := by decide +kernel
theorem dJ6_bitCount_0f7a4_22 : decode cJ6_bitCount_0f7a4 22 = .ok (.iadd, 1) := by decide +kernel
theorem dJ6_bitCount_0f7a4_23 : decode cJ6_bitCount_0f7a4 23 = .ok (.istore_n 0, 1) := by decide +kernel
theorem dJ6_bitCount_0f7a4_24 : decode cJ6_bitCount_0f7a4 24 = .ok (.iload_n 0, 1) := by decide +kernel
theorem dJ6_bitCount_0f7a4_25 : decode cJ6_bitCount_0f7a4 25 = .ok (.iload_n 0, 1) := by decide +kernel
theorem dJ6_bitCount_0f7a4_26 : decode cJ6_bitCount_0f7a4 26 = .ok (.iconst 4, 1) := by decide +kernel
theorem dJ6_bitCount_0f7a4_27 : decode cJ6_bitCount_0f7a4 27 = .ok (.iushr, 1) := by decide +kernel
theorem dJ6_bitCount_0f7a4_28 : decode cJ6_bitCount_0f7a4 28 = .ok (.iadd, 1) := by decide +kernel
theorem dJ6_bitCount_0f7a4_29 : decode cJ6_bitCount_0f7a4 29 = .ok (.ldc_w 267, 3) := by decide +kernel
theorem dJ6_bitCount_0f7a4_32 : decode cJ6_bitCount_0f7a4 32 = .ok (.iand, 1) := by decide +kernel
theorem dJ6_bitCount_0f7a4_33 : decode cJ6_bitCount_0f7a4 33 = .ok (.istore_n 0, 1) := by decide +kernel
theorem dJ6_bitCount_0f7a4_34 : decode cJ6_bitCount_0f7a4 34 = .ok (.iload_n 0, 1) := by decide +kernel
theorem dJ6_bitCount_0f7a4_35 : decode cJ6_bitCount_0f7a4 35 = .ok (.iload_n 0, 1) := by decide +kernel
theorem dJ6_bitCount_0f7a4_36 : decode cJ6_bitCount_0f7a4 36 = .ok (.bipush 8, 2) := by decide +kernel
theorem dJ6_bitCount_0f7a4_38 : decode cJ6_bitCount_0f7a4 38 = .ok (.iushr, 1) := by decide +kernel
theorem dJ6_bitCount_0f7a4_39 : decode cJ6_bitCount_0f7a4 39 = .ok (.iadd, 1) := by decide +kernel
theorem dJ6_bitCount_0f7a4_40 : decode cJ6_bitCount_0f7a4 40 = .ok (.istore_n 0, 1) := by decide +kernel
theorem dJ6_bitCount_0f7a4_41 : decode cJ6_bitCount_0f7a4 41 = .ok (.iload_n 0, 1) := by decide +kernel
theorem dJ6_bitCount_0f7a4_42 : decode cJ6_bitCount_0f7a4 42 = .ok (.iload_n 0, 1) := by decide +kernel
theorem dJ6_bitCount_0f7a4_43 : decode cJ6_bitCount_0f7a4 43 = .ok (.bipush 16, 2) := by decide +kernel
theorem dJ6_bitCount_0f7a4_45 : decode cJ6_bitCount_0f7a4 45 = .ok (.iushr, 1) := by decide +kernel
theorem dJ6_bitCount_0f7a4_46 : decode cJ6_bitCount_0f7a4 46 = .ok (.iadd, 1) := by decide +kernel
theorem dJ6_bitCount_0f7a4_47 : decode cJ6_bitCount_0f7a4 47 = .ok (.istore_n 0, 1) := by decide +kernel
theorem dJ6_bitCount_0f7a4_48 : decode cJ6_bitCount_0f7a4 48 = .ok (.iload_n 0, 1) := by decide +kernel
theorem dJ6_bitCount_0f7a4_49 : decode cJ6_bitCount_0f7a4 49 = .ok (.bipush 63, 2) := by decide +kernel
theorem dJ6_bitCount_0f7a4_51 : decode cJ6_bitCount_0f7a4 51 = .ok (.iand, 1) := by decide +kernel
theorem dJ6_bitCount_0f7a4_52 : decode cJ6_bitCount_0f7a4 52 = .ok (.ireturn, 1) := by decide +kernel
theorem dJ13_bitCount_95d88_0 : decode cJ13_bitCount_95d88 0 = .ok (.lload_n 0, 1) := by decide +kernel
theorem dJ13_bitCount_95d88_1 : decode cJ13_bitCount_95d88 1 = .ok (.lload_n 0, 1) := by decide +kernel
theorem dJ13_bitCount_95d88_2 : decode cJ13_bitCount_95d88 2 = .ok (.iconst 1, 1) := by decide +kernel
theorem dJ13_bitCount_95d88_3 : decode cJ13_bitCount_95d88 3 = .ok (.lushr, 1) := by decide +kernel
theorem dJ13_bitCount_95d88_4 : decode cJ13_bitCount_95d88 4 = .ok (.ldc2_w 314, 3) := by decide +kernel
theorem dJ13_bitCount_95d88_7 : decode cJ13_bitCount_95d88 7 = .ok (.land, 1) := by decide +kernel
theorem dJ13_bitCount_95d88_8 : decode cJ13_bitCount_95d88 8 = .ok (.lsub, 1) := by decide +kernel
theorem dJ13_bitCount_95d88_9 : decode cJ13_bitCount_95d88 9 = .ok (.lstore_n 0, 1) := by decide +kernel
theorem dJ13_bitCount_95d88_10 : decode cJ13_bitCount_95d88 10 = .ok (.lload_n 0, 1) := by decide +kernel
theorem dJ13_bitCount_95d88_11 : decode cJ13_bitCount_95d88 11 = .ok (.ldc2_w 316, 3) := by decide +kernel
theorem dJ13_bitCount_95d88_14 : decode cJ13_bitCount_95d88 14 = .ok (.land, 1) := by decide +kernel
theorem dJ13_bitCount_95d88_15 : decode cJ13_bitCount_95d88 15 = .ok (.lload_n 0, 1) := by decide +kernel
theorem dJ13_bitCount_95d88_16 : decode cJ13_bitCount_95d88 16 = .ok (.iconst 2, 1) := by decide +kernel
theorem dJ13_bitCount_95d88_17 : decode cJ13_bitCount_95d88 17 = .ok (.lushr, 1) := by decide +kernel
theorem dJ13_bitCount_95d88_18 : decode cJ13_bitCount_95d88 18 = .ok (.ldc2_w 316, 3) := by decide +kernel
theorem dJ13_bitCount_95d88_21 : decode cJ13_bitCount_95d88 21 = .ok (.land, 1) := by decide +kernel
theorem dJ13_bitCount_95d88_22 : decode cJ13_bitCount_95d88 22 = .ok (.ladd, 1) := by decide +kernel
theorem dJ13_bitCount_95d88_23 : decode cJ13_bitCount_95d88 23 = .ok (.lstore_n 0, 1) := by decide +kernel
theorem dJ13_bitCount_95d88_24 : decode cJ13_bitCount_95d88 24 = .ok (.lload_n 0, 1) := by decide +kernel
theorem dJ13_bitCount_95d88_25 : decode cJ13_bitCount_95d88 25 = .ok (.lload_n 0, 1) := by decide +kernel
theorem dJ13_bitCount_95d88_26 : decode cJ13_bitCount_95d88 26 = .ok (.iconst 4, 1) := by decide +kernel
theorem dJ13_bitCount_95d88_27 : decode cJ13_bitCount_95d88 27 = .ok (.lushr, 1) := by decide +kernel
theorem dJ13_bitCount_95d88_28 : decode cJ13_bitCount_95d88 28 = .ok (.ladd, 1) := by decide +kernel
theorem dJ13_bitCount_95d88_29 : decode cJ13_bitCount_95d88 29 = .ok (.ldc2_w 318, 3) := by decide +kernel
theorem dJ13_bitCount_95d88_32 : decode cJ13_bitCount_95d88 32 = .ok (.land, 1) := by decide +kernel
theorem dJ13_bitCount_95d88_33 : decode cJ13_bitCount_95d88 33 = .ok (.lstore_n 0, 1) := by decide +kernel
theorem dJ13_bitCount_95d88_34 : decode cJ13_bitCount_95d88 34 = .ok (.lload_n 0, 1) := by decide +kernel
theorem dJ13_bitCount_95d88_35 : decode cJ13_bitCount_95d88 35 = .ok (.lload_n 0, 1) := by decide +kernel
theorem dJ13_bitCount_95d88_36 : decode cJ13_bitCount_95d88 36 = .ok (.bipush 8, 2) := by decide +kernel
theorem dJ13_bitCount_95d88_38 : decode cJ13_bitCount_95d88 38 = .ok (.lushr, 1) := by decide +kernel
theorem dJ13_bitCount_95d88_39 : decode cJ13_bitCount_95d88 39 = .ok (.ladd, 1) := by decide +kernel
theorem dJ13_bitCount_95d88_40 : decode cJ13_bitCount_95d88 40 = .ok (.lstore_n 0, 1) := by decide +kernel
theorem dJ13_bitCount_95d88_41 : decode cJ13_bitCount_95d88 41 = .ok (.lload_n 0, 1) := by decide +kernel
theorem dJ13_bitCount_95d88_42 : decode cJ13_bitCount_95d88 42 = .ok (.lload_n 0, 1) := by decide +kernel
theorem dJ13_bitCount_95d88_43 : decode cJ13_bitCount_95d88 43 = .ok (.bipush 16, 2) := by decide +kernel
theorem dJ13_bitCount_95d88_45 : decode cJ13_bitCount_95d88 45 = .ok (.lushr, 1) := by decide +kernel
theorem dJ13_bitCount_95d88_46 : decode cJ13_bitCount_95d88 46 = .ok (.ladd, 1) := by decide +kernel
theorem dJ13_bitCount_95d88_47 : decode cJ13_bitCount_95d88 47 = .ok (.lstore_n 0, 1) := by decide +kernel
theorem dJ13_bitCount_95d88_48 : decode cJ13_bitCount_95d88 48 = .ok (.lload_n 0, 1) := by decide +kernel
theorem dJ13_bitCount_95d88_49 : decode cJ13_bitCount_95d88 49 = .ok (.lload_n 0, 1) := by decide +kernel
theorem dJ13_bitCount_95d88_50 : decode cJ13_bitCount_95d88 50 = .ok (.bipush 32, 2) := by decide +kernel
theorem dJ13_bitCount_95d88_52 : decode cJ13_bitCount_95d88 52 = .ok (.lushr, 1) := by decide +kernel
theorem dJ13_bitCount_95d88_53 : decode cJ13_bitCount_95d88 53 = .ok (.ladd, 1) := by decide +kernel
theorem dJ13_bitCount_95d88_54 : decode cJ13_bitCount_95d88 54 = .ok (.lstore_n 0, 1) := by decide +kernel
theorem dJ13_bitCount_95d88_55 : decode cJ13_bitCount_95d88 55 = .ok (.lload_n 0, 1) := by decide +kernel
theorem dJ13_bitCount_95d88_56 : decode cJ13_bitCount_95d88 56 = .ok (.l2i, 1) := by decide +kernel
theorem dJ13_bitCount_95d88_57 : decode cJ13_bitCount_95d88 57 = .ok (.bipush 127, 2) := by decide +kernel
theorem dJ13_bitCount_95d88_59 : decode cJ13_bitCount_95d88 59 = .ok (.iand, 1) := by decide +kernel
theorem dJ13_bitCount_95d88_60 : decode cJ13_bitCount_95d88 60 = .ok (.ireturn, 1) := by decide +kernel
theorem dJ9_max_7cf53_0 : decode cJ9_max_7cf53 0 = .ok (.iload_n 0, 1) := by decide +kernel
theorem dJ9_max_7cf53_1 : decode cJ9_max_7cf53 1 = .ok (.iload_n 1, 1) := by decide +kernel
theorem dJ9_max_7cf53_2 : decode cJ9_max_7cf53 2 = .ok (.if_icmp .lt 7, 3) := by decide +kernel
theorem dJ9_max_7cf53_5 : decode cJ9_max_7cf53 5 = .ok (.iload_n 0, 1) := by decide +kernel
theorem dJ9_max_7cf53_6 : decode cJ9_max_7cf53 6 = .ok (.goto 4, 3) := by decide +kernel
theorem dJ9_max_7cf53_9 : decode cJ9_max_7cf53 9 = .ok (.iload_n 1, 1) := by decide +kernel
theorem dJ9_max_7cf53_10 : decode cJ9_max_7cf53 10 = .ok (.ireturn, 1) := by decide +kernel
theorem dL_law_0 : decode cL_law 0 = .ok (.new 7, 3) := by decide +kernel
theorem dL_law_3 : decode cL_law 3 = .ok (.dup, 1) := by decide +kernel
theorem dL_law_4 : decode cL_law 4 = .ok (.invokespecial 9, 3) := by decide +kernel
theorem dL_law_7 : decode cL_law 7 = .ok (.astore_n 1, 1) := by decide +kernel
theorem dL_law_8 : decode cL_law 8 = .ok (.new 10, 3) := by decide +kernel
theorem dL_law_11 : decode cL_law 11 = .ok (.dup, 1) := by decide +kernel
theorem dL_law_12 : decode cL_law 12 = .ok (.invokespecial 12, 3) := by decide +kernel
theorem dL_law_15 : decode cL_law 15 = .ok (.astore_n 2, 1) := by decide +kernel
theorem dL_law_16 : decode cL_law 16 = .ok (.iconst 0, 1) := by decide +kernel
theorem dL_law_17 : decode cL_law 17 = .ok (.istore_n 3, 1) := by decide +kernel
theorem dL_law_18 : decode cL_law 18 = .ok (.iload_n 3, 1) := by decide +kernel
theorem dL_law_19 : decode cL_law 19 = .ok (.aload_n 0, 1) := by decide +kernel
theorem dL_law_20 : decode cL_law 20 = .ok (.arraylength, 1) := by decide +kernel
theorem dL_law_21 : decode cL_law 21 = .ok (.iconst 5, 1) := by decide +kernel
theorem dL_law_22 : decode cL_law 22 = .ok (.isub, 1) := by decide +kernel
theorem dL_law_23 : decode cL_law 23 = .ok (.if_icmp .gt 1182, 3) := by decide +kernel
theorem dL_law_26 : decode cL_law 26 = .ok (.aload_n 0, 1) := by decide +kernel
theorem dL_law_27 : decode cL_law 27 = .ok (.iload_n 3, 1) := by decide +kernel
theorem dL_law_28 : decode cL_law 28 = .ok (.iaload, 1) := by decide +kernel
theorem dL_law_29 : decode cL_law 29 = .ok (.bipush 63, 2) := by decide +kernel
theorem dL_law_31 : decode cL_law 31 = .ok (.iand, 1) := by decide +kernel
theorem dL_law_32 : decode cL_law 32 = .ok (.tableswitch 1167 0 37 #[168, 201, 224, 237, 260, 283, 306, 359, 372, 395, 418, 441, 454, 477, 490, 513, 526, 579, 638, 671, 694, 727, 760, 793, 806, 857, 890, 913, 926, 949, 992, 1025, 1048, 1071, 1094, 1117, 1130, 1153], 168) := by decide +kernel
theorem dL_law_200 : decode cL_law 200 = .ok (.aload_n 1, 1) := by decide +kernel
theorem dL_law_201 : decode cL_law 201 = .ok (.aload_n 0, 1) := by decide +kernel
theorem dL_law_202 : decode cL_law 202 = .ok (.iload_n 3, 1) := by decide +kernel
theorem dL_law_203 : decode cL_law 203 = .ok (.iconst 1, 1) := by decide +kernel
theorem dL_law_204 : decode cL_law 204 = .ok (.iadd, 1) := by decide +kernel
theorem dL_law_205 : decode cL_law 205 = .ok (.iaload, 1) := by decide +kernel
theorem dL_law_206 : decode cL_law 206 = .ok (.aload_n 0, 1) := by decide +kernel
theorem dL_law_207 : decode cL_law 207 = .ok (.iload_n 3, 1) := by decide +kernel
theorem dL_law_208 : decode cL_law 208 = .ok (.iconst 2, 1) := by decide +kernel
theorem dL_law_209 : decode cL_law 209 = .ok (.iadd, 1) := by decide +kernel
theorem dL_law_210 : decode cL_law 210 = .ok (.iaload, 1) := by decide +kernel
theorem dL_law_211 : decode cL_law 211 = .ok (.invokevirtual 13, 3) := by decide +kernel
theorem dL_law_214 : decode cL_law 214 = .ok (.aload_n 2, 1) := by decide +kernel
theorem dL_law_215 : decode cL_law 215 = .ok (.aload_n 0, 1) := by decide +kernel
theorem dL_law_216 : decode cL_law 216 = .ok (.iload_n 3, 1) := by decide +kernel
theorem dL_law_217 : decode cL_law 217 = .ok (.iconst 1, 1) := by decide +kernel
theorem dL_law_218 : decode cL_law 218 = .ok (.iadd, 1) := by decide +kernel
theorem dL_law_219 : decode cL_law 219 = .ok (.iaload, 1) := by decide +kernel
theorem dL_law_220 : decode cL_law 220 = .ok (.aload_n 0, 1) := by decide +kernel
theorem dL_law_221 : decode cL_law 221 = .ok (.iload_n 3, 1) := by decide +kernel
theorem dL_law_222 : decode cL_law 222 = .ok (.iconst 2, 1) := by decide +kernel
theorem dL_law_223 : decode cL_law 223 = .ok (.iadd, 1) := by decide +kernel
theorem dL_law_224 : decode cL_law 224 = .ok (.iaload, 1) := by decide +kernel
theorem dL_law_225 : decode cL_law 225 = .ok (.invokevirtual 17, 3) := by decide +kernel
theorem dL_law_228 : decode cL_law 228 = .ok (.if_icmp .eq 971, 3) := by decide +kernel
theorem dL_law_231 : decode cL_law 231 = .ok (.iconst 0, 1) := by decide +kernel
theorem dL_law_232 : decode cL_law 232 = .ok (.ireturn, 1) := by decide +kernel
theorem dL_law_233 : decode cL_law 233 = .ok (.aload_n 1, 1) := by decide +kernel
theorem dL_law_234 : decode cL_law 234 = .ok (.aload_n 0, 1) := by decide +kernel
theorem dL_law_235 : decode cL_law 235 = .ok (.iload_n 3, 1) := by decide +kernel
theorem dL_law_236 : decode cL_law 236 = .ok (.iconst 1, 1) := by decide +kernel
theorem dL_law_237 : decode cL_law 237 = .ok (.iadd, 1) := by decide +kernel
theorem dL_law_238 : decode cL_law 238 = .ok (.iaload, 1) := by decide +kernel
theorem dL_law_239 : decode cL_law 239 = .ok (.invokevirtual 18, 3) := by decide +kernel
theorem dL_law_242 : decode cL_law 242 = .ok (.aload_n 2, 1) := by decide +kernel
theorem dL_law_243 : decode cL_law 243 = .ok (.aload_n 0, 1) := by decide +kernel
theorem dL_law_244 : decode cL_law 244 = .ok (.iload_n 3, 1) := by decide +kernel
theorem dL_law_245 : decode cL_law 245 = .ok (.iconst 1, 1) := by decide +kernel
theorem dL_law_246 : decode cL_law 246 = .ok (.iadd, 1) := by decide +kernel
theorem dL_law_247 : decode cL_law 247 = .ok (.iaload, 1) := by decide +kernel
theorem dL_law_248 : decode cL_law 248 = .ok (.invokevirtual 22, 3) := by decide +kernel
theorem dL_law_251 : decode cL_law 251 = .ok (.if_icmp .eq 948, 3) := by decide +kernel
theorem dL_law_254 : decode cL_law 254 = .ok (.iconst 0, 1) := by decide +kernel
theorem dL_law_255 : decode cL_law 255 = .ok (.ireturn, 1) := by decide +kernel
theorem dL_law_256 : decode cL_law 256 = .ok (.aload_n 1, 1) := by decide +kernel
theorem dL_law_257 : decode cL_law 257 = .ok (.invokevirtual 23, 3) := by decide +kernel
theorem dL_law_260 : decode cL_law 260 = .ok (.aload_n 2, 1) := by decide +kernel
theorem dL_law_261 : decode cL_law 261 = .ok (.invokevirtual 27, 3) := by decide +kernel
theorem dL_law_264 : decode cL_law 264 = .ok (.if_icmp .eq 935, 3) := by decide +kernel
theorem dL_law_267 : decode cL_law 267 = .ok (.iconst 0, 1) := by decide +kernel
theorem dL_law_268 : decode cL_law 268 = .ok (.ireturn, 1) := by decide +kernel
theorem dL_law_269 : decode cL_law 269 = .ok (.aload_n 1, 1) := by decide +kernel
theorem dL_law_270 : decode cL_law 270 = .ok (.aload_n 0, 1) := by decide +kernel
theorem dL_law_271 : decode cL_law 271 = .ok (.iload_n 3, 1) := by decide +kernel
theorem dL_law_272 : decode cL_law 272 = .ok (.iconst 1, 1) := by decide +kernel
theorem dL_law_273 : decode cL_law 273 = .ok (.iadd, 1) := by decide +kernel
theorem dL_law_274 : decode cL_law 274 = .ok (.iaload, 1) := by decide +kernel
theorem dL_law_275 : decode cL_law 275 = .ok (.invokevirtual 28, 3) := by decide +kernel
theorem dL_law_278 : decode cL_law 278 = .ok (.aload_n 2, 1) := by decide +kernel
theorem dL_law_279 : decode cL_law 279 = .ok (.aload_n 0, 1) := by decide +kernel
theorem dL_law_280 : decode cL_law 280 = .ok (.iload_n 3, 1) := by decide +kernel
theorem dL_law_281 : decode cL_law 281 = .ok (.iconst 1, 1) := by decide +kernel
theorem dL_law_282 : decode cL_law 282 = .ok (.iadd, 1) := by decide +kernel
theorem dL_law_283 : decode cL_law 283 = .ok (.iaload, 1) := by decide +kernel
theorem dL_law_284 : decode cL_law 284 = .ok (.invokevirtual 31, 3) := by decide +kernel
theorem dL_law_287 : decode cL_law 287 = .ok (.if_icmp .eq 912, 3) := by decide +kernel
theorem dL_law_290 : decode cL_law 290 = .ok (.iconst 0, 1) := by decide +kernel
theorem dL_law_291 : decode cL_law 291 = .ok (.ireturn, 1) := by decide +kernel
theorem dL_law_292 : decode cL_law 292 = .ok (.aload_n 1, 1) := by decide +kernel
theorem dL_law_293 : decode cL_law 293 = .ok (.aload_n 0, 1) := by decide +kernel
theorem dL_law_294 : decode cL_law 294 = .ok (.iload_n 3, 1) := by decide +kernel
theorem dL_law_295 : decode cL_law 295 = .ok (.iconst 1, 1) := by decide +kernel
theorem dL_law_296 : decode cL_law 296 = .ok (.iadd, 1) := by decide +kernel
theorem dL_law_297 : decode cL_law 297 = .ok (.iaload, 1) := by decide +kernel
theorem dL_law_298 : decode cL_law 298 = .ok (.invokevirtual 32, 3) := by decide +kernel
theorem dL_law_301 : decode cL_law 301 = .ok (.aload_n 2, 1) := by decide +kernel
theorem dL_law_302 : decode cL_law 302 = .ok (.aload_n 0, 1) := by decide +kernel
theorem dL_law_303 : decode cL_law 303 = .ok (.iload_n 3, 1) := by decide +kernel
theorem dL_law_304 : decode cL_law 304 = .ok (.iconst 1, 1) := by decide +kernel
theorem dL_law_305 : decode cL_law 305 = .ok (.iadd, 1) := by decide +kernel
theorem dL_law_306 : decode cL_law 306 = .ok (.iaload, 1) := by decide +kernel
theorem dL_law_307 : decode cL_law 307 = .ok (.invokevirtual 35, 3) := by decide +kernel
theorem dL_law_310 : decode cL_law 310 = .ok (.if_icmp .eq 889, 3) := by decide +kernel
theorem dL_law_313 : decode cL_law 313 = .ok (.iconst 0, 1) := by decide +kernel
theorem dL_law_314 : decode cL_law 314 = .ok (.ireturn, 1) := by decide +kernel
theorem dL_law_315 : decode cL_law 315 = .ok (.aload_n 1, 1) := by decide +kernel
theorem dL_law_316 : decode cL_law 316 = .ok (.aload_n 0, 1) := by decide +kernel
theorem dL_law_317 : decode cL_law 317 = .ok (.iload_n 3, 1) := by decide +kernel
theorem dL_law_318 : decode cL_law 318 = .ok (.iconst 1, 1) := by decide +kernel
theorem dL_law_319 : decode cL_law 319 = .ok (.iadd, 1) := by decide +kernel
theorem dL_law_320 : decode cL_law 320 = .ok (.iaload, 1) := by decide +kernel
theorem dL_law_321 : decode cL_law 321 = .ok (.invokevirtual 36, 3) := by decide +kernel
theorem dL_law_324 : decode cL_law 324 = .ok (.aload_n 2, 1) := by decide +kernel
theorem dL_law_325 : decode cL_law 325 = .ok (.aload_n 0, 1) := by decide +kernel
theorem dL_law_326 : decode cL_law 326 = .ok (.iload_n 3, 1) := by decide +kernel
theorem dL_law_327 : decode cL_law 327 = .ok (.iconst 1, 1) := by decide +kernel
theorem dL_law_328 : decode cL_law 328 = .ok (.iadd, 1) := by decide +kernel
theorem dL_law_329 : decode cL_law 329 = .ok (.iaload, 1) := by decide +kernel
theorem dL_law_330 : decode cL_law 330 = .ok (.invokevirtual 39, 3) := by decide +kernel
theorem dL_law_333 : decode cL_law 333 = .ok (.if_icmp .eq 866, 3) := by decide +kernel
theorem dL_law_336 : decode cL_law 336 = .ok (.iconst 0, 1) := by decide +kernel
theorem dL_law_337 : decode cL_law 337 = .ok (.ireturn, 1) := by decide +kernel
theorem dL_law_338 : decode cL_law 338 = .ok (.aload_n 1, 1) := by decide +kernel
theorem dL_law_339 : decode cL_law 339 = .ok (.aload_n 0, 1) := by decide +kernel
theorem dL_law_340 : decode cL_law 340 = .ok (.iload_n 3, 1) := by decide +kernel
theorem dL_law_341 : decode cL_law 341 = .ok (.iconst 1, 1) := by decide +kernel
theorem dL_law_342 : decode cL_law 342 = .ok (.iadd, 1) := by decide +kernel
theorem dL_law_343 : decode cL_law 343 = .ok (.iaload, 1) := by decide +kernel
theorem dL_law_344 : decode cL_law 344 = .ok (.aload_n 0, 1) := by decide +kernel
theorem dL_law_345 : decode cL_law 345 = .ok (.iload_n 3, 1) := by decide +kernel
theorem dL_law_346 : decode cL_law 346 = .ok (.iconst 2, 1) := by decide +kernel
theorem dL_law_347 : decode cL_law 347 = .ok (.iadd, 1) := by decide +kernel
theorem dL_law_348 : decode cL_law 348 = .ok (.iaload, 1) := by decide +kernel
theorem dL_law_349 : decode cL_law 349 = .ok (.aload_n 0, 1) := by decide +kernel
theorem dL_law_350 : decode cL_law 350 = .ok (.iload_n 3, 1) := by decide +kernel
theorem dL_law_351 : decode cL_law 351 = .ok (.iconst 3, 1) := by decide +kernel
theorem dL_law_352 : decode cL_law 352 = .ok (.iadd, 1) := by decide +kernel
theorem dL_law_353 : decode cL_law 353 = .ok (.iaload, 1) := by decide +kernel
theorem dL_law_354 : decode cL_law 354 = .ok (.aload_n 0, 1) := by decide +kernel
theorem dL_law_355 : decode cL_law 355 = .ok (.iload_n 3, 1) := by decide +kernel
theorem dL_law_356 : decode cL_law 356 = .ok (.iconst 4, 1) := by decide +kernel
theorem dL_law_357 : decode cL_law 357 = .ok (.iadd, 1) := by decide +kernel
theorem dL_law_358 : decode cL_law 358 = .ok (.iaload, 1) := by decide +kernel
theorem dL_law_359 : decode cL_law 359 = .ok (.invokevirtual 40, 3) := by decide +kernel
theorem dL_law_362 : decode cL_law 362 = .ok (.aload_n 2, 1) := by decide +kernel
theorem dL_law_363 : decode cL_law 363 = .ok (.aload_n 0, 1) := by decide +kernel
theorem dL_law_364 : decode cL_law 364 = .ok (.iload_n 3, 1) := by decide +kernel
theorem dL_law_365 : decode cL_law 365 = .ok (.iconst 1, 1) := by decide +kernel
theorem dL_law_366 : decode cL_law 366 = .ok (.iadd, 1) := by decide +kernel
theorem dL_law_367 : decode cL_law 367 = .ok (.iaload, 1) := by decide +kernel
theorem dL_law_368 : decode cL_law 368 = .ok (.aload_n 0, 1) := by decide +kernel
theorem dL_law_369 : decode cL_law 369 = .ok (.iload_n 3, 1) := by decide +kernel
theorem dL_law_370 : decode cL_law 370 = .ok (.iconst 2, 1) := by decide +kernel
theorem dL_law_371 : decode cL_law 371 = .ok (.iadd, 1) := by decide +kernel
theorem dL_law_372 : decode cL_law 372 = .ok (.iaload, 1) := by decide +kernel
theorem dL_law_373 : decode cL_law 373 = .ok (.aload_n 0, 1) := by decide +kernel
theorem dL_law_374 : decode cL_law 374 = .ok (.iload_n 3, 1) := by decide +kernel
theorem dL_law_375 : decode cL_law 375 = .ok (.iconst 3, 1) := by decide +kernel
theorem dL_law_376 : decode cL_law 376 = .ok (.iadd, 1) := by decide +kernel
theorem dL_law_377 : decode cL_law 377 = .ok (.iaload, 1) := by decide +kernel
theorem dL_law_378 : decode cL_law 378 = .ok (.aload_n 0, 1) := by decide +kernel
theorem dL_law_379 : decode cL_law 379 = .ok (.iload_n 3, 1) := by decide +kernel
theorem dL_law_380 : decode cL_law 380 = .ok (.iconst 4, 1) := by decide +kernel
theorem dL_law_381 : decode cL_law 381 = .ok (.iadd, 1) := by decide +kernel
theorem dL_law_382 : decode cL_law 382 = .ok (.iaload, 1) := by decide +kernel
theorem dL_law_383 : decode cL_law 383 = .ok (.invokevirtual 44, 3) := by decide +kernel
theorem dL_law_386 : decode cL_law 386 = .ok (.if_icmp .eq 813, 3) := by decide +kernel
theorem dL_law_389 : decode cL_law 389 = .ok (.iconst 0, 1) := by decide +kernel
theorem dL_law_390 : decode cL_law 390 = .ok (.ireturn, 1) := by decide +kernel
theorem dL_law_391 : decode cL_law 391 = .ok (.aload_n 1, 1) := by decide +kernel
theorem dL_law_392 : decode cL_law 392 = .ok (.invokevirtual 45, 3) := by decide +kernel
theorem dL_law_395 : decode cL_law 395 = .ok (.aload_n 2, 1) := by decide +kernel
theorem dL_law_396 : decode cL_law 396 = .ok (.invokevirtual 48, 3) := by decide +kernel
theorem dL_law_399 : decode cL_law 399 = .ok (.if_icmp .eq 800, 3) := by decide +kernel
theorem dL_law_402 : decode cL_law 402 = .ok (.iconst 0, 1) := by decide +kernel
theorem dL_law_403 : decode cL_law 403 = .ok (.ireturn, 1) := by decide +kernel
theorem dL_law_404 : decode cL_law 404 = .ok (.aload_n 1, 1) := by decide +kernel
theorem dL_law_405 : decode cL_law 405 = .ok (.aload_n 0, 1) := by decide +kernel
theorem dL_law_406 : decode cL_law 406 = .ok (.iload_n 3, 1) := by decide +kernel
theorem dL_law_407 : decode cL_law 407 = .ok (.iconst 1, 1) := by decide +kernel
theorem dL_law_408 : decode cL_law 408 = .ok (.iadd, 1) := by decide +kernel
theorem dL_law_409 : decode cL_law 409 = .ok (.iaload, 1) := by decide +kernel
theorem dL_law_410 : decode cL_law 410 = .ok (.invokevirtual 49, 3) := by decide +kernel
theorem dL_law_413 : decode cL_law 413 = .ok (.aload_n 2, 1) := by decide +kernel
theorem dL_law_414 : decode cL_law 414 = .ok (.aload_n 0, 1) := by decide +kernel
theorem dL_law_415 : decode cL_law 415 = .ok (.iload_n 3, 1) := by decide +kernel
theorem dL_law_416 : decode cL_law 416 = .ok (.iconst 1, 1) := by decide +kernel
theorem dL_law_417 : decode cL_law 417 = .ok (.iadd, 1) := by decide +kernel
theorem dL_law_418 : decode cL_law 418 = .ok (.iaload, 1) := by decide +kernel
theorem dL_law_419 : decode cL_law 419 = .ok (.invokevirtual 52, 3) := by decide +kernel
theorem dL_law_422 : decode cL_law 422 = .ok (.if_icmp .eq 777, 3) := by decide +kernel
theorem dL_law_425 : decode cL_law 425 = .ok (.iconst 0, 1) := by decide +kernel
theorem dL_law_426 : decode cL_law 426 = .ok (.ireturn, 1) := by decide +kernel
theorem dL_law_427 : decode cL_law 427 = .ok (.aload_n 1, 1) := by decide +kernel
theorem dL_law_428 : decode cL_law 428 = .ok (.aload_n 0, 1) := by decide +kernel
theorem dL_law_429 : decode cL_law 429 = .ok (.iload_n 3, 1) := by decide +kernel
theorem dL_law_430 : decode cL_law 430 = .ok (.iconst 1, 1) := by decide +kernel
theorem dL_law_431 : decode cL_law 431 = .ok (.iadd, 1) := by decide +kernel
theorem dL_law_432 : decode cL_law 432 = .ok (.iaload, 1) := by decide +kernel
theorem dL_law_433 : decode cL_law 433 = .ok (.invokevirtual 53, 3) := by decide +kernel
theorem dL_law_436 : decode cL_law 436 = .ok (.aload_n 2, 1) := by decide +kernel
theorem dL_law_437 : decode cL_law 437 = .ok (.aload_n 0, 1) := by decide +kernel
theorem dL_law_438 : decode cL_law 438 = .ok (.iload_n 3, 1) := by decide +kernel
theorem dL_law_439 : decode cL_law 439 = .ok (.iconst 1, 1) := by decide +kernel
theorem dL_law_440 : decode cL_law 440 = .ok (.iadd, 1) := by decide +kernel
theorem dL_law_441 : decode cL_law 441 = .ok (.iaload, 1) := by decide +kernel
theorem dL_law_442 : decode cL_law 442 = .ok (.invokevirtual 56, 3) := by decide +kernel
theorem dL_law_445 : decode cL_law 445 = .ok (.if_icmp .eq 754, 3) := by decide +kernel
theorem dL_law_448 : decode cL_law 448 = .ok (.iconst 0, 1) := by decide +kernel
theorem dL_law_449 : decode cL_law 449 = .ok (.ireturn, 1) := by decide +kernel
theorem dL_law_450 : decode cL_law 450 = .ok (.aload_n 1, 1) := by decide +kernel
theorem dL_law_451 : decode cL_law 451 = .ok (.aload_n 0, 1) := by decide +kernel
theorem dL_law_452 : decode cL_law 452 = .ok (.iload_n 3, 1) := by decide +kernel
theorem dL_law_453 : decode cL_law 453 = .ok (.iconst 1, 1) := by decide +kernel
theorem dL_law_454 : decode cL_law 454 = .ok (.iadd, 1) := by decide +kernel
theorem dL_law_455 : decode cL_law 455 = .ok (.iaload, 1) := by decide +kernel
theorem dL_law_456 : decode cL_law 456 = .ok (.invokevirtual 57, 3) := by decide +kernel
theorem dL_law_459 : decode cL_law 459 = .ok (.aload_n 2, 1) := by decide +kernel
theorem dL_law_460 : decode cL_law 460 = .ok (.aload_n 0, 1) := by decide +kernel
theorem dL_law_461 : decode cL_law 461 = .ok (.iload_n 3, 1) := by decide +kernel
theorem dL_law_462 : decode cL_law 462 = .ok (.iconst 1, 1) := by decide +kernel
theorem dL_law_463 : decode cL_law 463 = .ok (.iadd, 1) := by decide +kernel
theorem dL_law_464 : decode cL_law 464 = .ok (.iaload, 1) := by decide +kernel
theorem dL_law_465 : decode cL_law 465 = .ok (.invokevirtual 60, 3) := by decide +kernel
theorem dL_law_468 : decode cL_law 468 = .ok (.if_icmp .eq 731, 3) := by decide +kernel
theorem dL_law_471 : decode cL_law 471 = .ok (.iconst 0, 1) := by decide +kernel
theorem dL_law_472 : decode cL_law 472 = .ok (.ireturn, 1) := by decide +kernel
theorem dL_law_473 : decode cL_law 473 = .ok (.aload_n 1, 1) := by decide +kernel
theorem dL_law_474 : decode cL_law 474 = .ok (.invokevirtual 61, 3) := by decide +kernel
theorem dL_law_477 : decode cL_law 477 = .ok (.aload_n 2, 1) := by decide +kernel
theorem dL_law_478 : decode cL_law 478 = .ok (.invokevirtual 64, 3) := by decide +kernel
theorem dL_law_481 : decode cL_law 481 = .ok (.if_icmp .eq 718, 3) := by decide +kernel
theorem dL_law_484 : decode cL_law 484 = .ok (.iconst 0, 1) := by decide +kernel
theorem dL_law_485 : decode cL_law 485 = .ok (.ireturn, 1) := by decide +kernel
theorem dL_law_486 : decode cL_law 486 = .ok (.aload_n 1, 1) := by decide +kernel
theorem dL_law_487 : decode cL_law 487 = .ok (.aload_n 0, 1) := by decide +kernel
theorem dL_law_488 : decode cL_law 488 = .ok (.iload_n 3, 1) := by decide +kernel
theorem dL_law_489 : decode cL_law 489 = .ok (.iconst 1, 1) := by decide +kernel
theorem dL_law_490 : decode cL_law 490 = .ok (.iadd, 1) := by decide +kernel
theorem dL_law_491 : decode cL_law 491 = .ok (.iaload, 1) := by decide +kernel
theorem dL_law_492 : decode cL_law 492 = .ok (.invokevirtual 65, 3) := by decide +kernel
theorem dL_law_495 : decode cL_law 495 = .ok (.aload_n 2, 1) := by decide +kernel
theorem dL_law_496 : decode cL_law 496 = .ok (.aload_n 0, 1) := by decide +kernel
theorem dL_law_497 : decode cL_law 497 = .ok (.iload_n 3, 1) := by decide +kernel
theorem dL_law_498 : decode cL_law 498 = .ok (.iconst 1, 1) := by decide +kernel
theorem dL_law_499 : decode cL_law 499 = .ok (.iadd, 1) := by decide +kernel
theorem dL_law_500 : decode cL_law 500 = .ok (.iaload, 1) := by decide +kernel
theorem dL_law_501 : decode cL_law 501 = .ok (.invokevirtual 68, 3) := by decide +kernel
theorem dL_law_504 : decode cL_law 504 = .ok (.if_icmp .eq 695, 3) := by decide +kernel
theorem dL_law_507 : decode cL_law 507 = .ok (.iconst 0, 1) := by decide +kernel
theorem dL_law_508 : decode cL_law 508 = .ok (.ireturn, 1) := by decide +kernel
theorem dL_law_509 : decode cL_law 509 = .ok (.aload_n 1, 1) := by decide +kernel
theorem dL_law_510 : decode cL_law 510 = .ok (.invokevirtual 69, 3) := by decide +kernel
theorem dL_law_513 : decode cL_law 513 = .ok (.aload_n 2, 1) := by decide +kernel
theorem dL_law_514 : decode cL_law 514 = .ok (.invokevirtual 72, 3) := by decide +kernel
theorem dL_law_517 : decode cL_law 517 = .ok (.if_icmp .eq 682, 3) := by decide +kernel
theorem dL_law_520 : decode cL_law 520 = .ok (.iconst 0, 1) := by decide +kernel
theorem dL_law_521 : decode cL_law 521 = .ok (.ireturn, 1) := by decide +kernel
theorem dL_law_522 : decode cL_law 522 = .ok (.aload_n 1, 1) := by decide +kernel
theorem dL_law_523 : decode cL_law 523 = .ok (.aload_n 0, 1) := by decide +kernel
theorem dL_law_524 : decode cL_law 524 = .ok (.iload_n 3, 1) := by decide +kernel
theorem dL_law_525 : decode cL_law 525 = .ok (.iconst 1, 1) := by decide +kernel
theorem dL_law_526 : decode cL_law 526 = .ok (.iadd, 1) := by decide +kernel
theorem dL_law_527 : decode cL_law 527 = .ok (.iaload, 1) := by decide +kernel
theorem dL_law_528 : decode cL_law 528 = .ok (.invokevirtual 73, 3) := by decide +kernel
theorem dL_law_531 : decode cL_law 531 = .ok (.aload_n 2, 1) := by decide +kernel
theorem dL_law_532 : decode cL_law 532 = .ok (.aload_n 0, 1) := by decide +kernel
theorem dL_law_533 : decode cL_law 533 = .ok (.iload_n 3, 1) := by decide +kernel
theorem dL_law_534 : decode cL_law 534 = .ok (.iconst 1, 1) := by decide +kernel
theorem dL_law_535 : decode cL_law 535 = .ok (.iadd, 1) := by decide +kernel
theorem dL_law_536 : decode cL_law 536 = .ok (.iaload, 1) := by decide +kernel
theorem dL_law_537 : decode cL_law 537 = .ok (.invokevirtual 76, 3) := by decide +kernel
theorem dL_law_540 : decode cL_law 540 = .ok (.if_icmp .eq 659, 3) := by decide +kernel
theorem dL_law_543 : decode cL_law 543 = .ok (.iconst 0, 1) := by decide +kernel
theorem dL_law_544 : decode cL_law 544 = .ok (.ireturn, 1) := by decide +kernel
theorem dL_law_545 : decode cL_law 545 = .ok (.aload_n 1, 1) := by decide +kernel
theorem dL_law_546 : decode cL_law 546 = .ok (.invokevirtual 77, 3) := by decide +kernel
theorem dL_law_549 : decode cL_law 549 = .ok (.aload_n 2, 1) := by decide +kernel
theorem dL_law_550 : decode cL_law 550 = .ok (.invokevirtual 80, 3) := by decide +kernel
theorem dL_law_553 : decode cL_law 553 = .ok (.if_icmp .eq 646, 3) := by decide +kernel
theorem dL_law_556 : decode cL_law 556 = .ok (.iconst 0, 1) := by decide +kernel
theorem dL_law_557 : decode cL_law 557 = .ok (.ireturn, 1) := by decide +kernel
theorem dL_law_558 : decode cL_law 558 = .ok (.aload_n 1, 1) := by decide +kernel
theorem dL_law_559 : decode cL_law 559 = .ok (.aload_n 0, 1) := by decide +kernel
theorem dL_law_560 : decode cL_law 560 = .ok (.iload_n 3, 1) := by decide +kernel
theorem dL_law_561 : decode cL_law 561 = .ok (.iconst 1, 1) := by decide +kernel
theorem dL_law_562 : decode cL_law 562 = .ok (.iadd, 1) := by decide +kernel
theorem dL_law_563 : decode cL_law 563 = .ok (.iaload, 1) := by decide +kernel
theorem dL_law_564 : decode cL_law 564 = .ok (.aload_n 0, 1) := by decide +kernel
theorem dL_law_565 : decode cL_law 565 = .ok (.iload_n 3, 1) := by decide +kernel
theorem dL_law_566 : decode cL_law 566 = .ok (.iconst 2, 1) := by decide +kernel
theorem dL_law_567 : decode cL_law 567 = .ok (.iadd, 1) := by decide +kernel
theorem dL_law_568 : decode cL_law 568 = .ok (.iaload, 1) := by decide +kernel
theorem dL_law_569 : decode cL_law 569 = .ok (.aload_n 0, 1) := by decide +kernel
theorem dL_law_570 : decode cL_law 570 = .ok (.iload_n 3, 1) := by decide +kernel
theorem dL_law_571 : decode cL_law 571 = .ok (.iconst 3, 1) := by decide +kernel
theorem dL_law_572 : decode cL_law 572 = .ok (.iadd, 1) := by decide +kernel
theorem dL_law_573 : decode cL_law 573 = .ok (.iaload, 1) := by decide +kernel
theorem dL_law_574 : decode cL_law 574 = .ok (.aload_n 0, 1) := by decide +kernel
theorem dL_law_575 : decode cL_law 575 = .ok (.iload_n 3, 1) := by decide +kernel
theorem dL_law_576 : decode cL_law 576 = .ok (.iconst 4, 1) := by decide +kernel
theorem dL_law_577 : decode cL_law 577 = .ok (.iadd, 1) := by decide +kernel
theorem dL_law_578 : decode cL_law 578 = .ok (.iaload, 1) := by decide +kernel
theorem dL_law_579 : decode cL_law 579 = .ok (.invokevirtual 81, 3) := by decide +kernel
theorem dL_law_582 : decode cL_law 582 = .ok (.aload_n 2, 1) := by decide +kernel
theorem dL_law_583 : decode cL_law 583 = .ok (.aload_n 0, 1) := by decide +kernel
theorem dL_law_584 : decode cL_law 584 = .ok (.iload_n 3, 1) := by decide +kernel
theorem dL_law_585 : decode cL_law 585 = .ok (.iconst 1, 1) := by decide +kernel
theorem dL_law_586 : decode cL_law 586 = .ok (.iadd, 1) := by decide +kernel
theorem dL_law_587 : decode cL_law 587 = .ok (.iaload, 1) := by decide +kernel
theorem dL_law_588 : decode cL_law 588 = .ok (.aload_n 0, 1) := by decide +kernel
theorem dL_law_589 : decode cL_law 589 = .ok (.iload_n 3, 1) := by decide +kernel
theorem dL_law_590 : decode cL_law 590 = .ok (.iconst 2, 1) := by decide +kernel
theorem dL_law_591 : decode cL_law 591 = .ok (.iadd, 1) := by decide +kernel
theorem dL_law_592 : decode cL_law 592 = .ok (.iaload, 1) := by decide +kernel
theorem dL_law_593 : decode cL_law 593 = .ok (.aload_n 0, 1) := by decide +kernel
theorem dL_law_594 : decode cL_law 594 = .ok (.iload_n 3, 1) := by decide +kernel
theorem dL_law_595 : decode cL_law 595 = .ok (.iconst 3, 1) := by decide +kernel
theorem dL_law_596 : decode cL_law 596 = .ok (.iadd, 1) := by decide +kernel
theorem dL_law_597 : decode cL_law 597 = .ok (.iaload, 1) := by decide +kernel
theorem dL_law_598 : decode cL_law 598 = .ok (.aload_n 0, 1) := by decide +kernel
theorem dL_law_599 : decode cL_law 599 = .ok (.iload_n 3, 1) := by decide +kernel
theorem dL_law_600 : decode cL_law 600 = .ok (.iconst 4, 1) := by decide +kernel
theorem dL_law_601 : decode cL_law 601 = .ok (.iadd, 1) := by decide +kernel
theorem dL_law_602 : decode cL_law 602 = .ok (.iaload, 1) := by decide +kernel
theorem dL_law_603 : decode cL_law 603 = .ok (.invokevirtual 84, 3) := by decide +kernel
theorem dL_law_606 : decode cL_law 606 = .ok (.if_icmp .eq 593, 3) := by decide +kernel
theorem dL_law_609 : decode cL_law 609 = .ok (.iconst 0, 1) := by decide +kernel
theorem dL_law_610 : decode cL_law 610 = .ok (.ireturn, 1) := by decide +kernel
theorem dL_law_611 : decode cL_law 611 = .ok (.aload_n 1, 1) := by decide +kernel
theorem dL_law_612 : decode cL_law 612 = .ok (.aload_n 0, 1) := by decide +kernel
theorem dL_law_613 : decode cL_law 613 = .ok (.iload_n 3, 1) := by decide +kernel
theorem dL_law_614 : decode cL_law 614 = .ok (.iconst 1, 1) := by decide +kernel
theorem dL_law_615 : decode cL_law 615 = .ok (.iadd, 1) := by decide +kernel
theorem dL_law_616 : decode cL_law 616 = .ok (.iaload, 1) := by decide +kernel
theorem dL_law_617 : decode cL_law 617 = .ok (.aload_n 0, 1) := by decide +kernel
theorem dL_law_618 : decode cL_law 618 = .ok (.iload_n 3, 1) := by decide +kernel
theorem dL_law_619 : decode cL_law 619 = .ok (.iconst 2, 1) := by decide +kernel
theorem dL_law_620 : decode cL_law 620 = .ok (.iadd, 1) := by decide +kernel
theorem dL_law_621 : decode cL_law 621 = .ok (.iaload, 1) := by decide +kernel
theorem dL_law_622 : decode cL_law 622 = .ok (.aload_n 0, 1) := by decide +kernel
theorem dL_law_623 : decode cL_law 623 = .ok (.iload_n 3, 1) := by decide +kernel
theorem dL_law_624 : decode cL_law 624 = .ok (.iconst 3, 1) := by decide +kernel
theorem dL_law_625 : decode cL_law 625 = .ok (.iadd, 1) := by decide +kernel
theorem dL_law_626 : decode cL_law 626 = .ok (.iaload, 1) := by decide +kernel
theorem dL_law_627 : decode cL_law 627 = .ok (.ifCond .eq 7, 3) := by decide +kernel
theorem dL_law_630 : decode cL_law 630 = .ok (.iconst 1, 1) := by decide +kernel
theorem dL_law_631 : decode cL_law 631 = .ok (.goto 4, 3) := by decide +kernel
theorem dL_law_634 : decode cL_law 634 = .ok (.iconst 0, 1) := by decide +kernel
theorem dL_law_635 : decode cL_law 635 = .ok (.invokevirtual 85, 3) := by decide +kernel
theorem dL_law_638 : decode cL_law 638 = .ok (.aload_n 2, 1) := by decide +kernel
theorem dL_law_639 : decode cL_law 639 = .ok (.aload_n 0, 1) := by decide +kernel
theorem dL_law_640 : decode cL_law 640 = .ok (.iload_n 3, 1) := by decide +kernel
theorem dL_law_641 : decode cL_law 641 = .ok (.iconst 1, 1) := by decide +kernel
theorem dL_law_642 : decode cL_law 642 = .ok (.iadd, 1) := by decide +kernel
theorem dL_law_643 : decode cL_law 643 = .ok (.iaload, 1) := by decide +kernel
theorem dL_law_644 : decode cL_law 644 = .ok (.aload_n 0, 1) := by decide +kernel
theorem dL_law_645 : decode cL_law 645 = .ok (.iload_n 3, 1) := by decide +kernel
theorem dL_law_646 : decode cL_law 646 = .ok (.iconst 2, 1) := by decide +kernel
theorem dL_law_647 : decode cL_law 647 = .ok (.iadd, 1) := by decide +kernel
theorem dL_law_648 : decode cL_law 648 = .ok (.iaload, 1) := by decide +kernel
theorem dL_law_649 : decode cL_law 649 = .ok (.aload_n 0, 1) := by decide +kernel
theorem dL_law_650 : decode cL_law 650 = .ok (.iload_n 3, 1) := by decide +kernel
theorem dL_law_651 : decode cL_law 651 = .ok (.iconst 3, 1) := by decide +kernel
theorem dL_law_652 : decode cL_law 652 = .ok (.iadd, 1) := by decide +kernel
theorem dL_law_653 : decode cL_law 653 = .ok (.iaload, 1) := by decide +kernel
theorem dL_law_654 : decode cL_law 654 = .ok (.ifCond .eq 7, 3) := by decide +kernel
theorem dL_law_657 : decode cL_law 657 = .ok (.iconst 1, 1) := by decide +kernel
theorem dL_law_658 : decode cL_law 658 = .ok (.goto 4, 3) := by decide +kernel
theorem dL_law_661 : decode cL_law 661 = .ok (.iconst 0, 1) := by decide +kernel
theorem dL_law_662 : decode cL_law 662 = .ok (.invokevirtual 89, 3) := by decide +kernel
theorem dL_law_665 : decode cL_law 665 = .ok (.if_icmp .eq 534, 3) := by decide +kernel
theorem dL_law_668 : decode cL_law 668 = .ok (.iconst 0, 1) := by decide +kernel
theorem dL_law_669 : decode cL_law 669 = .ok (.ireturn, 1) := by decide +kernel
theorem dL_law_670 : decode cL_law 670 = .ok (.aload_n 1, 1) := by decide +kernel
theorem dL_law_671 : decode cL_law 671 = .ok (.aload_n 0, 1) := by decide +kernel
theorem dL_law_672 : decode cL_law 672 = .ok (.iload_n 3, 1) := by decide +kernel
theorem dL_law_673 : decode cL_law 673 = .ok (.iconst 1, 1) := by decide +kernel
theorem dL_law_674 : decode cL_law 674 = .ok (.iadd, 1) := by decide +kernel
theorem dL_law_675 : decode cL_law 675 = .ok (.iaload, 1) := by decide +kernel
theorem dL_law_676 : decode cL_law 676 = .ok (.aload_n 0, 1) := by decide +kernel
theorem dL_law_677 : decode cL_law 677 = .ok (.iload_n 3, 1) := by decide +kernel
theorem dL_law_678 : decode cL_law 678 = .ok (.iconst 2, 1) := by decide +kernel
theorem dL_law_679 : decode cL_law 679 = .ok (.iadd, 1) := by decide +kernel
theorem dL_law_680 : decode cL_law 680 = .ok (.iaload, 1) := by decide +kernel
theorem dL_law_681 : decode cL_law 681 = .ok (.invokevirtual 90, 3) := by decide +kernel
theorem dL_law_684 : decode cL_law 684 = .ok (.aload_n 2, 1) := by decide +kernel
theorem dL_law_685 : decode cL_law 685 = .ok (.aload_n 0, 1) := by decide +kernel
theorem dL_law_686 : decode cL_law 686 = .ok (.iload_n 3, 1) := by decide +kernel
theorem dL_law_687 : decode cL_law 687 = .ok (.iconst 1, 1) := by decide +kernel
theorem dL_law_688 : decode cL_law 688 = .ok (.iadd, 1) := by decide +kernel
theorem dL_law_689 : decode cL_law 689 = .ok (.iaload, 1) := by decide +kernel
theorem dL_law_690 : decode cL_law 690 = .ok (.aload_n 0, 1) := by decide +kernel
theorem dL_law_691 : decode cL_law 691 = .ok (.iload_n 3, 1) := by decide +kernel
theorem dL_law_692 : decode cL_law 692 = .ok (.iconst 2, 1) := by decide +kernel
theorem dL_law_693 : decode cL_law 693 = .ok (.iadd, 1) := by decide +kernel
theorem dL_law_694 : decode cL_law 694 = .ok (.iaload, 1) := by decide +kernel
theorem dL_law_695 : decode cL_law 695 = .ok (.invokevirtual 93, 3) := by decide +kernel
theorem dL_law_698 : decode cL_law 698 = .ok (.if_icmp .eq 501, 3) := by decide +kernel
theorem dL_law_701 : decode cL_law 701 = .ok (.iconst 0, 1) := by decide +kernel
theorem dL_law_702 : decode cL_law 702 = .ok (.ireturn, 1) := by decide +kernel
theorem dL_law_703 : decode cL_law 703 = .ok (.aload_n 1, 1) := by decide +kernel
theorem dL_law_704 : decode cL_law 704 = .ok (.aload_n 0, 1) := by decide +kernel
theorem dL_law_705 : decode cL_law 705 = .ok (.iload_n 3, 1) := by decide +kernel
theorem dL_law_706 : decode cL_law 706 = .ok (.iconst 1, 1) := by decide +kernel
theorem dL_law_707 : decode cL_law 707 = .ok (.iadd, 1) := by decide +kernel
theorem dL_law_708 : decode cL_law 708 = .ok (.iaload, 1) := by decide +kernel
theorem dL_law_709 : decode cL_law 709 = .ok (.invokevirtual 94, 3) := by decide +kernel
theorem dL_law_712 : decode cL_law 712 = .ok (.aload_n 2, 1) := by decide +kernel
theorem dL_law_713 : decode cL_law 713 = .ok (.aload_n 0, 1) := by decide +kernel
theorem dL_law_714 : decode cL_law 714 = .ok (.iload_n 3, 1) := by decide +kernel
theorem dL_law_715 : decode cL_law 715 = .ok (.iconst 1, 1) := by decide +kernel
theorem dL_law_716 : decode cL_law 716 = .ok (.iadd, 1) := by decide +kernel
theorem dL_law_717 : decode cL_law 717 = .ok (.iaload, 1) := by decide +kernel
theorem dL_law_718 : decode cL_law 718 = .ok (.invokevirtual 97, 3) := by decide +kernel
theorem dL_law_721 : decode cL_law 721 = .ok (.if_icmp .eq 478, 3) := by decide +kernel
theorem dL_law_724 : decode cL_law 724 = .ok (.iconst 0, 1) := by decide +kernel
theorem dL_law_725 : decode cL_law 725 = .ok (.ireturn, 1) := by decide +kernel
theorem dL_law_726 : decode cL_law 726 = .ok (.aload_n 1, 1) := by decide +kernel
theorem dL_law_727 : decode cL_law 727 = .ok (.aload_n 0, 1) := by decide +kernel
theorem dL_law_728 : decode cL_law 728 = .ok (.iload_n 3, 1) := by decide +kernel
theorem dL_law_729 : decode cL_law 729 = .ok (.iconst 1, 1) := by decide +kernel
theorem dL_law_730 : decode cL_law 730 = .ok (.iadd, 1) := by decide +kernel
theorem dL_law_731 : decode cL_law 731 = .ok (.iaload, 1) := by decide +kernel
theorem dL_law_732 : decode cL_law 732 = .ok (.aload_n 0, 1) := by decide +kernel
theorem dL_law_733 : decode cL_law 733 = .ok (.iload_n 3, 1) := by decide +kernel
theorem dL_law_734 : decode cL_law 734 = .ok (.iconst 2, 1) := by decide +kernel
theorem dL_law_735 : decode cL_law 735 = .ok (.iadd, 1) := by decide +kernel
theorem dL_law_736 : decode cL_law 736 = .ok (.iaload, 1) := by decide +kernel
theorem dL_law_737 : decode cL_law 737 = .ok (.invokevirtual 98, 3) := by decide +kernel
theorem dL_law_740 : decode cL_law 740 = .ok (.aload_n 2, 1) := by decide +kernel
theorem dL_law_741 : decode cL_law 741 = .ok (.aload_n 0, 1) := by decide +kernel
theorem dL_law_742 : decode cL_law 742 = .ok (.iload_n 3, 1) := by decide +kernel
theorem dL_law_743 : decode cL_law 743 = .ok (.iconst 1, 1) := by decide +kernel
theorem dL_law_744 : decode cL_law 744 = .ok (.iadd, 1) := by decide +kernel
theorem dL_law_745 : decode cL_law 745 = .ok (.iaload, 1) := by decide +kernel
theorem dL_law_746 : decode cL_law 746 = .ok (.aload_n 0, 1) := by decide +kernel
theorem dL_law_747 : decode cL_law 747 = .ok (.iload_n 3, 1) := by decide +kernel
theorem dL_law_748 : decode cL_law 748 = .ok (.iconst 2, 1) := by decide +kernel
theorem dL_law_749 : decode cL_law 749 = .ok (.iadd, 1) := by decide +kernel
theorem dL_law_750 : decode cL_law 750 = .ok (.iaload, 1) := by decide +kernel
theorem dL_law_751 : decode cL_law 751 = .ok (.invokevirtual 101, 3) := by decide +kernel
theorem dL_law_754 : decode cL_law 754 = .ok (.if_icmp .eq 445, 3) := by decide +kernel
theorem dL_law_757 : decode cL_law 757 = .ok (.iconst 0, 1) := by decide +kernel
theorem dL_law_758 : decode cL_law 758 = .ok (.ireturn, 1) := by decide +kernel
theorem dL_law_759 : decode cL_law 759 = .ok (.aload_n 1, 1) := by decide +kernel
theorem dL_law_760 : decode cL_law 760 = .ok (.aload_n 0, 1) := by decide +kernel
theorem dL_law_761 : decode cL_law 761 = .ok (.iload_n 3, 1) := by decide +kernel
theorem dL_law_762 : decode cL_law 762 = .ok (.iconst 1, 1) := by decide +kernel
theorem dL_law_763 : decode cL_law 763 = .ok (.iadd, 1) := by decide +kernel
theorem dL_law_764 : decode cL_law 764 = .ok (.iaload, 1) := by decide +kernel
theorem dL_law_765 : decode cL_law 765 = .ok (.aload_n 0, 1) := by decide +kernel
theorem dL_law_766 : decode cL_law 766 = .ok (.iload_n 3, 1) := by decide +kernel
theorem dL_law_767 : decode cL_law 767 = .ok (.iconst 2, 1) := by decide +kernel
theorem dL_law_768 : decode cL_law 768 = .ok (.iadd, 1) := by decide +kernel
theorem dL_law_769 : decode cL_law 769 = .ok (.iaload, 1) := by decide +kernel
theorem dL_law_770 : decode cL_law 770 = .ok (.invokevirtual 102, 3) := by decide +kernel
theorem dL_law_773 : decode cL_law 773 = .ok (.aload_n 2, 1) := by decide +kernel
theorem dL_law_774 : decode cL_law 774 = .ok (.aload_n 0, 1) := by decide +kernel
theorem dL_law_775 : decode cL_law 775 = .ok (.iload_n 3, 1) := by decide +kernel
theorem dL_law_776 : decode cL_law 776 = .ok (.iconst 1, 1) := by decide +kernel
theorem dL_law_777 : decode cL_law 777 = .ok (.iadd, 1) := by decide +kernel
theorem dL_law_778 : decode cL_law 778 = .ok (.iaload, 1) := by decide +kernel
theorem dL_law_779 : decode cL_law 779 = .ok (.aload_n 0, 1) := by decide +kernel
theorem dL_law_780 : decode cL_law 780 = .ok (.iload_n 3, 1) := by decide +kernel
theorem dL_law_781 : decode cL_law 781 = .ok (.iconst 2, 1) := by decide +kernel
theorem dL_law_782 : decode cL_law 782 = .ok (.iadd, 1) := by decide +kernel
theorem dL_law_783 : decode cL_law 783 = .ok (.iaload, 1) := by decide +kernel
theorem dL_law_784 : decode cL_law 784 = .ok (.invokevirtual 105, 3) := by decide +kernel
theorem dL_law_787 : decode cL_law 787 = .ok (.if_icmp .eq 412, 3) := by decide +kernel
theorem dL_law_790 : decode cL_law 790 = .ok (.iconst 0, 1) := by decide +kernel
theorem dL_law_791 : decode cL_law 791 = .ok (.ireturn, 1) := by decide +kernel
theorem dL_law_792 : decode cL_law 792 = .ok (.aload_n 1, 1) := by decide +kernel
theorem dL_law_793 : decode cL_law 793 = .ok (.aload_n 0, 1) := by decide +kernel
theorem dL_law_794 : decode cL_law 794 = .ok (.iload_n 3, 1) := by decide +kernel
theorem dL_law_795 : decode cL_law 795 = .ok (.iconst 1, 1) := by decide +kernel
theorem dL_law_796 : decode cL_law 796 = .ok (.iadd, 1) := by decide +kernel
theorem dL_law_797 : decode cL_law 797 = .ok (.iaload, 1) := by decide +kernel
theorem dL_law_798 : decode cL_law 798 = .ok (.aload_n 0, 1) := by decide +kernel
theorem dL_law_799 : decode cL_law 799 = .ok (.iload_n 3, 1) := by decide +kernel
theorem dL_law_800 : decode cL_law 800 = .ok (.iconst 2, 1) := by decide +kernel
theorem dL_law_801 : decode cL_law 801 = .ok (.iadd, 1) := by decide +kernel
theorem dL_law_802 : decode cL_law 802 = .ok (.iaload, 1) := by decide +kernel
theorem dL_law_803 : decode cL_law 803 = .ok (.invokevirtual 106, 3) := by decide +kernel
theorem dL_law_806 : decode cL_law 806 = .ok (.aload_n 2, 1) := by decide +kernel
theorem dL_law_807 : decode cL_law 807 = .ok (.aload_n 0, 1) := by decide +kernel
theorem dL_law_808 : decode cL_law 808 = .ok (.iload_n 3, 1) := by decide +kernel
theorem dL_law_809 : decode cL_law 809 = .ok (.iconst 1, 1) := by decide +kernel
theorem dL_law_810 : decode cL_law 810 = .ok (.iadd, 1) := by decide +kernel
theorem dL_law_811 : decode cL_law 811 = .ok (.iaload, 1) := by decide +kernel
theorem dL_law_812 : decode cL_law 812 = .ok (.aload_n 0, 1) := by decide +kernel
theorem dL_law_813 : decode cL_law 813 = .ok (.iload_n 3, 1) := by decide +kernel
theorem dL_law_814 : decode cL_law 814 = .ok (.iconst 2, 1) := by decide +kernel
theorem dL_law_815 : decode cL_law 815 = .ok (.iadd, 1) := by decide +kernel
theorem dL_law_816 : decode cL_law 816 = .ok (.iaload, 1) := by decide +kernel
theorem dL_law_817 : decode cL_law 817 = .ok (.invokevirtual 109, 3) := by decide +kernel
theorem dL_law_820 : decode cL_law 820 = .ok (.if_icmp .eq 379, 3) := by decide +kernel
theorem dL_law_823 : decode cL_law 823 = .ok (.iconst 0, 1) := by decide +kernel
theorem dL_law_824 : decode cL_law 824 = .ok (.ireturn, 1) := by decide +kernel
theorem dL_law_825 : decode cL_law 825 = .ok (.aload_n 1, 1) := by decide +kernel
theorem dL_law_826 : decode cL_law 826 = .ok (.invokevirtual 110, 3) := by decide +kernel
theorem dL_law_829 : decode cL_law 829 = .ok (.aload_n 2, 1) := by decide +kernel
theorem dL_law_830 : decode cL_law 830 = .ok (.invokevirtual 113, 3) := by decide +kernel
theorem dL_law_833 : decode cL_law 833 = .ok (.if_icmp .eq 366, 3) := by decide +kernel
theorem dL_law_836 : decode cL_law 836 = .ok (.iconst 0, 1) := by decide +kernel
theorem dL_law_837 : decode cL_law 837 = .ok (.ireturn, 1) := by decide +kernel
theorem dL_law_838 : decode cL_law 838 = .ok (.aload_n 1, 1) := by decide +kernel
theorem dL_law_839 : decode cL_law 839 = .ok (.aload_n 0, 1) := by decide +kernel
theorem dL_law_840 : decode cL_law 840 = .ok (.iload_n 3, 1) := by decide +kernel
theorem dL_law_841 : decode cL_law 841 = .ok (.iconst 1, 1) := by decide +kernel
theorem dL_law_842 : decode cL_law 842 = .ok (.iadd, 1) := by decide +kernel
theorem dL_law_843 : decode cL_law 843 = .ok (.iaload, 1) := by decide +kernel
theorem dL_law_844 : decode cL_law 844 = .ok (.invokevirtual 114, 3) := by decide +kernel
theorem dL_law_847 : decode cL_law 847 = .ok (.dstore 4, 2) := by decide +kernel
theorem dL_law_849 : decode cL_law 849 = .ok (.aload_n 2, 1) := by decide +kernel
theorem dL_law_850 : decode cL_law 850 = .ok (.aload_n 0, 1) := by decide +kernel
theorem dL_law_851 : decode cL_law 851 = .ok (.iload_n 3, 1) := by decide +kernel
theorem dL_law_852 : decode cL_law 852 = .ok (.iconst 1, 1) := by decide +kernel
theorem dL_law_853 : decode cL_law 853 = .ok (.iadd, 1) := by decide +kernel
theorem dL_law_854 : decode cL_law 854 = .ok (.iaload, 1) := by decide +kernel
theorem dL_law_855 : decode cL_law 855 = .ok (.invokevirtual 118, 3) := by decide +kernel
theorem dL_law_858 : decode cL_law 858 = .ok (.dstore 6, 2) := by decide +kernel
theorem dL_law_860 : decode cL_law 860 = .ok (.dload 4, 2) := by decide +kernel
theorem dL_law_862 : decode cL_law 862 = .ok (.dload 6, 2) := by decide +kernel
theorem dL_law_864 : decode cL_law 864 = .ok (.dcmp .l, 1) := by decide +kernel
theorem dL_law_865 : decode cL_law 865 = .ok (.ifCond .eq 21, 3) := by decide +kernel
theorem dL_law_868 : decode cL_law 868 = .ok (.dload 4, 2) := by decide +kernel
theorem dL_law_870 : decode cL_law 870 = .ok (.dload 4, 2) := by decide +kernel
theorem dL_law_872 : decode cL_law 872 = .ok (.dcmp .l, 1) := by decide +kernel
theorem dL_law_873 : decode cL_law 873 = .ok (.ifCond .eq 11, 3) := by decide +kernel
theorem dL_law_876 : decode cL_law 876 = .ok (.dload 6, 2) := by decide +kernel
theorem dL_law_878 : decode cL_law 878 = .ok (.dload 6, 2) := by decide +kernel
theorem dL_law_880 : decode cL_law 880 = .ok (.dcmp .l, 1) := by decide +kernel
theorem dL_law_881 : decode cL_law 881 = .ok (.ifCond .ne 5, 3) := by decide +kernel
theorem dL_law_884 : decode cL_law 884 = .ok (.iconst 0, 1) := by decide +kernel
theorem dL_law_885 : decode cL_law 885 = .ok (.ireturn, 1) := by decide +kernel
theorem dL_law_886 : decode cL_law 886 = .ok (.goto 313, 3) := by decide +kernel
theorem dL_law_889 : decode cL_law 889 = .ok (.aload_n 1, 1) := by decide +kernel
theorem dL_law_890 : decode cL_law 890 = .ok (.aload_n 0, 1) := by decide +kernel
theorem dL_law_891 : decode cL_law 891 = .ok (.iload_n 3, 1) := by decide +kernel
theorem dL_law_892 : decode cL_law 892 = .ok (.iconst 1, 1) := by decide +kernel
theorem dL_law_893 : decode cL_law 893 = .ok (.iadd, 1) := by decide +kernel
theorem dL_law_894 : decode cL_law 894 = .ok (.iaload, 1) := by decide +kernel
theorem dL_law_895 : decode cL_law 895 = .ok (.aload_n 0, 1) := by decide +kernel
theorem dL_law_896 : decode cL_law 896 = .ok (.iload_n 3, 1) := by decide +kernel
theorem dL_law_897 : decode cL_law 897 = .ok (.iconst 2, 1) := by decide +kernel
theorem dL_law_898 : decode cL_law 898 = .ok (.iadd, 1) := by decide +kernel
theorem dL_law_899 : decode cL_law 899 = .ok (.iaload, 1) := by decide +kernel
theorem dL_law_900 : decode cL_law 900 = .ok (.invokevirtual 119, 3) := by decide +kernel
theorem dL_law_903 : decode cL_law 903 = .ok (.aload_n 2, 1) := by decide +kernel
theorem dL_law_904 : decode cL_law 904 = .ok (.aload_n 0, 1) := by decide +kernel
theorem dL_law_905 : decode cL_law 905 = .ok (.iload_n 3, 1) := by decide +kernel
theorem dL_law_906 : decode cL_law 906 = .ok (.iconst 1, 1) := by decide +kernel
theorem dL_law_907 : decode cL_law 907 = .ok (.iadd, 1) := by decide +kernel
theorem dL_law_908 : decode cL_law 908 = .ok (.iaload, 1) := by decide +kernel
theorem dL_law_909 : decode cL_law 909 = .ok (.aload_n 0, 1) := by decide +kernel
theorem dL_law_910 : decode cL_law 910 = .ok (.iload_n 3, 1) := by decide +kernel
theorem dL_law_911 : decode cL_law 911 = .ok (.iconst 2, 1) := by decide +kernel
theorem dL_law_912 : decode cL_law 912 = .ok (.iadd, 1) := by decide +kernel
theorem dL_law_913 : decode cL_law 913 = .ok (.iaload, 1) := by decide +kernel
theorem dL_law_914 : decode cL_law 914 = .ok (.invokevirtual 122, 3) := by decide +kernel
theorem dL_law_917 : decode cL_law 917 = .ok (.if_icmp .eq 282, 3) := by decide +kernel
theorem dL_law_920 : decode cL_law 920 = .ok (.iconst 0, 1) := by decide +kernel
theorem dL_law_921 : decode cL_law 921 = .ok (.ireturn, 1) := by decide +kernel
theorem dL_law_922 : decode cL_law 922 = .ok (.aload_n 1, 1) := by decide +kernel
theorem dL_law_923 : decode cL_law 923 = .ok (.aload_n 0, 1) := by decide +kernel
theorem dL_law_924 : decode cL_law 924 = .ok (.iload_n 3, 1) := by decide +kernel
theorem dL_law_925 : decode cL_law 925 = .ok (.iconst 1, 1) := by decide +kernel
theorem dL_law_926 : decode cL_law 926 = .ok (.iadd, 1) := by decide +kernel
theorem dL_law_927 : decode cL_law 927 = .ok (.iaload, 1) := by decide +kernel
theorem dL_law_928 : decode cL_law 928 = .ok (.invokevirtual 123, 3) := by decide +kernel
theorem dL_law_931 : decode cL_law 931 = .ok (.aload_n 2, 1) := by decide +kernel
theorem dL_law_932 : decode cL_law 932 = .ok (.aload_n 0, 1) := by decide +kernel
theorem dL_law_933 : decode cL_law 933 = .ok (.iload_n 3, 1) := by decide +kernel
theorem dL_law_934 : decode cL_law 934 = .ok (.iconst 1, 1) := by decide +kernel
theorem dL_law_935 : decode cL_law 935 = .ok (.iadd, 1) := by decide +kernel
theorem dL_law_936 : decode cL_law 936 = .ok (.iaload, 1) := by decide +kernel
theorem dL_law_937 : decode cL_law 937 = .ok (.invokevirtual 126, 3) := by decide +kernel
theorem dL_law_940 : decode cL_law 940 = .ok (.if_icmp .eq 259, 3) := by decide +kernel
theorem dL_law_943 : decode cL_law 943 = .ok (.iconst 0, 1) := by decide +kernel
theorem dL_law_944 : decode cL_law 944 = .ok (.ireturn, 1) := by decide +kernel
theorem dL_law_945 : decode cL_law 945 = .ok (.aload_n 1, 1) := by decide +kernel
theorem dL_law_946 : decode cL_law 946 = .ok (.invokevirtual 127, 3) := by decide +kernel
theorem dL_law_949 : decode cL_law 949 = .ok (.aload_n 2, 1) := by decide +kernel
theorem dL_law_950 : decode cL_law 950 = .ok (.invokevirtual 130, 3) := by decide +kernel
theorem dL_law_953 : decode cL_law 953 = .ok (.if_icmp .eq 246, 3) := by decide +kernel
theorem dL_law_956 : decode cL_law 956 = .ok (.iconst 0, 1) := by decide +kernel
theorem dL_law_957 : decode cL_law 957 = .ok (.ireturn, 1) := by decide +kernel
theorem dL_law_958 : decode cL_law 958 = .ok (.aload_n 1, 1) := by decide +kernel
theorem dL_law_959 : decode cL_law 959 = .ok (.aload_n 0, 1) := by decide +kernel
theorem dL_law_960 : decode cL_law 960 = .ok (.iload_n 3, 1) := by decide +kernel
theorem dL_law_961 : decode cL_law 961 = .ok (.iconst 1, 1) := by decide +kernel
theorem dL_law_962 : decode cL_law 962 = .ok (.iadd, 1) := by decide +kernel
theorem dL_law_963 : decode cL_law 963 = .ok (.iaload, 1) := by decide +kernel
theorem dL_law_964 : decode cL_law 964 = .ok (.invokevirtual 131, 3) := by decide +kernel
theorem dL_law_967 : decode cL_law 967 = .ok (.aload_n 2, 1) := by decide +kernel
theorem dL_law_968 : decode cL_law 968 = .ok (.aload_n 0, 1) := by decide +kernel
theorem dL_law_969 : decode cL_law 969 = .ok (.iload_n 3, 1) := by decide +kernel
theorem dL_law_970 : decode cL_law 970 = .ok (.iconst 1, 1) := by decide +kernel
theorem dL_law_971 : decode cL_law 971 = .ok (.iadd, 1) := by decide +kernel
theorem dL_law_972 : decode cL_law 972 = .ok (.iaload, 1) := by decide +kernel
theorem dL_law_973 : decode cL_law 973 = .ok (.invokevirtual 134, 3) := by decide +kernel
theorem dL_law_976 : decode cL_law 976 = .ok (.if_icmp .eq 223, 3) := by decide +kernel
theorem dL_law_979 : decode cL_law 979 = .ok (.iconst 0, 1) := by decide +kernel
theorem dL_law_980 : decode cL_law 980 = .ok (.ireturn, 1) := by decide +kernel
theorem dL_law_981 : decode cL_law 981 = .ok (.aload_n 1, 1) := by decide +kernel
theorem dL_law_982 : decode cL_law 982 = .ok (.aload_n 0, 1) := by decide +kernel
theorem dL_law_983 : decode cL_law 983 = .ok (.iload_n 3, 1) := by decide +kernel
theorem dL_law_984 : decode cL_law 984 = .ok (.iconst 1, 1) := by decide +kernel
theorem dL_law_985 : decode cL_law 985 = .ok (.iadd, 1) := by decide +kernel
theorem dL_law_986 : decode cL_law 986 = .ok (.iaload, 1) := by decide +kernel
theorem dL_law_987 : decode cL_law 987 = .ok (.aload_n 0, 1) := by decide +kernel
theorem dL_law_988 : decode cL_law 988 = .ok (.iload_n 3, 1) := by decide +kernel
theorem dL_law_989 : decode cL_law 989 = .ok (.iconst 2, 1) := by decide +kernel
theorem dL_law_990 : decode cL_law 990 = .ok (.iadd, 1) := by decide +kernel
theorem dL_law_991 : decode cL_law 991 = .ok (.iaload, 1) := by decide +kernel
theorem dL_law_992 : decode cL_law 992 = .ok (.aload_n 0, 1) := by decide +kernel
theorem dL_law_993 : decode cL_law 993 = .ok (.iload_n 3, 1) := by decide +kernel
theorem dL_law_994 : decode cL_law 994 = .ok (.iconst 3, 1) := by decide +kernel
theorem dL_law_995 : decode cL_law 995 = .ok (.iadd, 1) := by decide +kernel
theorem dL_law_996 : decode cL_law 996 = .ok (.iaload, 1) := by decide +kernel
theorem dL_law_997 : decode cL_law 997 = .ok (.invokevirtual 135, 3) := by decide +kernel
theorem dL_law_1000 : decode cL_law 1000 = .ok (.aload_n 2, 1) := by decide +kernel
theorem dL_law_1001 : decode cL_law 1001 = .ok (.aload_n 0, 1) := by decide +kernel
theorem dL_law_1002 : decode cL_law 1002 = .ok (.iload_n 3, 1) := by decide +kernel
theorem dL_law_1003 : decode cL_law 1003 = .ok (.iconst 1, 1) := by decide +kernel
theorem dL_law_1004 : decode cL_law 1004 = .ok (.iadd, 1) := by decide +kernel
theorem dL_law_1005 : decode cL_law 1005 = .ok (.iaload, 1) := by decide +kernel
theorem dL_law_1006 : decode cL_law 1006 = .ok (.aload_n 0, 1) := by decide +kernel
theorem dL_law_1007 : decode cL_law 1007 = .ok (.iload_n 3, 1) := by decide +kernel
theorem dL_law_1008 : decode cL_law 1008 = .ok (.iconst 2, 1) := by decide +kernel
theorem dL_law_1009 : decode cL_law 1009 = .ok (.iadd, 1) := by decide +kernel
theorem dL_law_1010 : decode cL_law 1010 = .ok (.iaload, 1) := by decide +kernel
theorem dL_law_1011 : decode cL_law 1011 = .ok (.aload_n 0, 1) := by decide +kernel
theorem dL_law_1012 : decode cL_law 1012 = .ok (.iload_n 3, 1) := by decide +kernel
theorem dL_law_1013 : decode cL_law 1013 = .ok (.iconst 3, 1) := by decide +kernel
theorem dL_law_1014 : decode cL_law 1014 = .ok (.iadd, 1) := by decide +kernel
theorem dL_law_1015 : decode cL_law 1015 = .ok (.iaload, 1) := by decide +kernel
theorem dL_law_1016 : decode cL_law 1016 = .ok (.invokevirtual 139, 3) := by decide +kernel
theorem dL_law_1019 : decode cL_law 1019 = .ok (.if_icmp .eq 180, 3) := by decide +kernel
theorem dL_law_1022 : decode cL_law 1022 = .ok (.iconst 0, 1) := by decide +kernel
theorem dL_law_1023 : decode cL_law 1023 = .ok (.ireturn, 1) := by decide +kernel
theorem dL_law_1024 : decode cL_law 1024 = .ok (.aload_n 1, 1) := by decide +kernel
theorem dL_law_1025 : decode cL_law 1025 = .ok (.aload_n 0, 1) := by decide +kernel
theorem dL_law_1026 : decode cL_law 1026 = .ok (.iload_n 3, 1) := by decide +kernel
theorem dL_law_1027 : decode cL_law 1027 = .ok (.iconst 1, 1) := by decide +kernel
theorem dL_law_1028 : decode cL_law 1028 = .ok (.iadd, 1) := by decide +kernel
theorem dL_law_1029 : decode cL_law 1029 = .ok (.iaload, 1) := by decide +kernel
theorem dL_law_1030 : decode cL_law 1030 = .ok (.aload_n 0, 1) := by decide +kernel
theorem dL_law_1031 : decode cL_law 1031 = .ok (.iload_n 3, 1) := by decide +kernel
theorem dL_law_1032 : decode cL_law 1032 = .ok (.iconst 2, 1) := by decide +kernel
theorem dL_law_1033 : decode cL_law 1033 = .ok (.iadd, 1) := by decide +kernel
theorem dL_law_1034 : decode cL_law 1034 = .ok (.iaload, 1) := by decide +kernel
theorem dL_law_1035 : decode cL_law 1035 = .ok (.invokevirtual 140, 3) := by decide +kernel
theorem dL_law_1038 : decode cL_law 1038 = .ok (.aload_n 2, 1) := by decide +kernel
theorem dL_law_1039 : decode cL_law 1039 = .ok (.aload_n 0, 1) := by decide +kernel
theorem dL_law_1040 : decode cL_law 1040 = .ok (.iload_n 3, 1) := by decide +kernel
theorem dL_law_1041 : decode cL_law 1041 = .ok (.iconst 1, 1) := by decide +kernel
theorem dL_law_1042 : decode cL_law 1042 = .ok (.iadd, 1) := by decide +kernel
theorem dL_law_1043 : decode cL_law 1043 = .ok (.iaload, 1) := by decide +kernel
theorem dL_law_1044 : decode cL_law 1044 = .ok (.aload_n 0, 1) := by decide +kernel
theorem dL_law_1045 : decode cL_law 1045 = .ok (.iload_n 3, 1) := by decide +kernel
theorem dL_law_1046 : decode cL_law 1046 = .ok (.iconst 2, 1) := by decide +kernel
theorem dL_law_1047 : decode cL_law 1047 = .ok (.iadd, 1) := by decide +kernel
theorem dL_law_1048 : decode cL_law 1048 = .ok (.iaload, 1) := by decide +kernel
theorem dL_law_1049 : decode cL_law 1049 = .ok (.invokevirtual 143, 3) := by decide +kernel
theorem dL_law_1052 : decode cL_law 1052 = .ok (.if_icmp .eq 147, 3) := by decide +kernel
theorem dL_law_1055 : decode cL_law 1055 = .ok (.iconst 0, 1) := by decide +kernel
theorem dL_law_1056 : decode cL_law 1056 = .ok (.ireturn, 1) := by decide +kernel
theorem dL_law_1057 : decode cL_law 1057 = .ok (.aload_n 1, 1) := by decide +kernel
theorem dL_law_1058 : decode cL_law 1058 = .ok (.aload_n 0, 1) := by decide +kernel
theorem dL_law_1059 : decode cL_law 1059 = .ok (.iload_n 3, 1) := by decide +kernel
theorem dL_law_1060 : decode cL_law 1060 = .ok (.iconst 1, 1) := by decide +kernel
theorem dL_law_1061 : decode cL_law 1061 = .ok (.iadd, 1) := by decide +kernel
theorem dL_law_1062 : decode cL_law 1062 = .ok (.iaload, 1) := by decide +kernel
theorem dL_law_1063 : decode cL_law 1063 = .ok (.invokevirtual 144, 3) := by decide +kernel
theorem dL_law_1066 : decode cL_law 1066 = .ok (.aload_n 2, 1) := by decide +kernel
theorem dL_law_1067 : decode cL_law 1067 = .ok (.aload_n 0, 1) := by decide +kernel
theorem dL_law_1068 : decode cL_law 1068 = .ok (.iload_n 3, 1) := by decide +kernel
theorem dL_law_1069 : decode cL_law 1069 = .ok (.iconst 1, 1) := by decide +kernel
theorem dL_law_1070 : decode cL_law 1070 = .ok (.iadd, 1) := by decide +kernel
theorem dL_law_1071 : decode cL_law 1071 = .ok (.iaload, 1) := by decide +kernel
theorem dL_law_1072 : decode cL_law 1072 = .ok (.invokevirtual 147, 3) := by decide +kernel
theorem dL_law_1075 : decode cL_law 1075 = .ok (.if_icmp .eq 124, 3) := by decide +kernel
theorem dL_law_1078 : decode cL_law 1078 = .ok (.iconst 0, 1) := by decide +kernel
theorem dL_law_1079 : decode cL_law 1079 = .ok (.ireturn, 1) := by decide +kernel
theorem dL_law_1080 : decode cL_law 1080 = .ok (.aload_n 1, 1) := by decide +kernel
theorem dL_law_1081 : decode cL_law 1081 = .ok (.aload_n 0, 1) := by decide +kernel
theorem dL_law_1082 : decode cL_law 1082 = .ok (.iload_n 3, 1) := by decide +kernel
theorem dL_law_1083 : decode cL_law 1083 = .ok (.iconst 1, 1) := by decide +kernel
theorem dL_law_1084 : decode cL_law 1084 = .ok (.iadd, 1) := by decide +kernel
theorem dL_law_1085 : decode cL_law 1085 = .ok (.iaload, 1) := by decide +kernel
theorem dL_law_1086 : decode cL_law 1086 = .ok (.invokevirtual 148, 3) := by decide +kernel
theorem dL_law_1089 : decode cL_law 1089 = .ok (.aload_n 2, 1) := by decide +kernel
theorem dL_law_1090 : decode cL_law 1090 = .ok (.aload_n 0, 1) := by decide +kernel
theorem dL_law_1091 : decode cL_law 1091 = .ok (.iload_n 3, 1) := by decide +kernel
theorem dL_law_1092 : decode cL_law 1092 = .ok (.iconst 1, 1) := by decide +kernel
theorem dL_law_1093 : decode cL_law 1093 = .ok (.iadd, 1) := by decide +kernel
theorem dL_law_1094 : decode cL_law 1094 = .ok (.iaload, 1) := by decide +kernel
theorem dL_law_1095 : decode cL_law 1095 = .ok (.invokevirtual 151, 3) := by decide +kernel
theorem dL_law_1098 : decode cL_law 1098 = .ok (.if_icmp .eq 101, 3) := by decide +kernel
theorem dL_law_1101 : decode cL_law 1101 = .ok (.iconst 0, 1) := by decide +kernel
theorem dL_law_1102 : decode cL_law 1102 = .ok (.ireturn, 1) := by decide +kernel
theorem dL_law_1103 : decode cL_law 1103 = .ok (.aload_n 1, 1) := by decide +kernel
theorem dL_law_1104 : decode cL_law 1104 = .ok (.aload_n 0, 1) := by decide +kernel
theorem dL_law_1105 : decode cL_law 1105 = .ok (.iload_n 3, 1) := by decide +kernel
theorem dL_law_1106 : decode cL_law 1106 = .ok (.iconst 1, 1) := by decide +kernel
theorem dL_law_1107 : decode cL_law 1107 = .ok (.iadd, 1) := by decide +kernel
theorem dL_law_1108 : decode cL_law 1108 = .ok (.iaload, 1) := by decide +kernel
theorem dL_law_1109 : decode cL_law 1109 = .ok (.invokevirtual 152, 3) := by decide +kernel
theorem dL_law_1112 : decode cL_law 1112 = .ok (.aload_n 2, 1) := by decide +kernel
theorem dL_law_1113 : decode cL_law 1113 = .ok (.aload_n 0, 1) := by decide +kernel
theorem dL_law_1114 : decode cL_law 1114 = .ok (.iload_n 3, 1) := by decide +kernel
theorem dL_law_1115 : decode cL_law 1115 = .ok (.iconst 1, 1) := by decide +kernel
theorem dL_law_1116 : decode cL_law 1116 = .ok (.iadd, 1) := by decide +kernel
theorem dL_law_1117 : decode cL_law 1117 = .ok (.iaload, 1) := by decide +kernel
theorem dL_law_1118 : decode cL_law 1118 = .ok (.invokevirtual 155, 3) := by decide +kernel
theorem dL_law_1121 : decode cL_law 1121 = .ok (.if_icmp .eq 78, 3) := by decide +kernel
theorem dL_law_1124 : decode cL_law 1124 = .ok (.iconst 0, 1) := by decide +kernel
theorem dL_law_1125 : decode cL_law 1125 = .ok (.ireturn, 1) := by decide +kernel
theorem dL_law_1126 : decode cL_law 1126 = .ok (.aload_n 1, 1) := by decide +kernel
theorem dL_law_1127 : decode cL_law 1127 = .ok (.aload_n 0, 1) := by decide +kernel
theorem dL_law_1128 : decode cL_law 1128 = .ok (.iload_n 3, 1) := by decide +kernel
theorem dL_law_1129 : decode cL_law 1129 = .ok (.iconst 1, 1) := by decide +kernel
theorem dL_law_1130 : decode cL_law 1130 = .ok (.iadd, 1) := by decide +kernel
theorem dL_law_1131 : decode cL_law 1131 = .ok (.iaload, 1) := by decide +kernel
theorem dL_law_1132 : decode cL_law 1132 = .ok (.invokevirtual 156, 3) := by decide +kernel
theorem dL_law_1135 : decode cL_law 1135 = .ok (.aload_n 2, 1) := by decide +kernel
theorem dL_law_1136 : decode cL_law 1136 = .ok (.aload_n 0, 1) := by decide +kernel
theorem dL_law_1137 : decode cL_law 1137 = .ok (.iload_n 3, 1) := by decide +kernel
theorem dL_law_1138 : decode cL_law 1138 = .ok (.iconst 1, 1) := by decide +kernel
theorem dL_law_1139 : decode cL_law 1139 = .ok (.iadd, 1) := by decide +kernel
theorem dL_law_1140 : decode cL_law 1140 = .ok (.iaload, 1) := by decide +kernel
theorem dL_law_1141 : decode cL_law 1141 = .ok (.invokevirtual 159, 3) := by decide +kernel
theorem dL_law_1144 : decode cL_law 1144 = .ok (.if_icmp .eq 55, 3) := by decide +kernel
theorem dL_law_1147 : decode cL_law 1147 = .ok (.iconst 0, 1) := by decide +kernel
theorem dL_law_1148 : decode cL_law 1148 = .ok (.ireturn, 1) := by decide +kernel
theorem dL_law_1149 : decode cL_law 1149 = .ok (.aload_n 1, 1) := by decide +kernel
theorem dL_law_1150 : decode cL_law 1150 = .ok (.invokevirtual 160, 3) := by decide +kernel
theorem dL_law_1153 : decode cL_law 1153 = .ok (.aload_n 2, 1) := by decide +kernel
theorem dL_law_1154 : decode cL_law 1154 = .ok (.invokevirtual 163, 3) := by decide +kernel
theorem dL_law_1157 : decode cL_law 1157 = .ok (.if_icmp .eq 42, 3) := by decide +kernel
theorem dL_law_1160 : decode cL_law 1160 = .ok (.iconst 0, 1) := by decide +kernel
theorem dL_law_1161 : decode cL_law 1161 = .ok (.ireturn, 1) := by decide +kernel
theorem dL_law_1162 : decode cL_law 1162 = .ok (.aload_n 1, 1) := by decide +kernel
theorem dL_law_1163 : decode cL_law 1163 = .ok (.aload_n 0, 1) := by decide +kernel
theorem dL_law_1164 : decode cL_law 1164 = .ok (.iload_n 3, 1) := by decide +kernel
theorem dL_law_1165 : decode cL_law 1165 = .ok (.iconst 1, 1) := by decide +kernel
theorem dL_law_1166 : decode cL_law 1166 = .ok (.iadd, 1) := by decide +kernel
theorem dL_law_1167 : decode cL_law 1167 = .ok (.iaload, 1) := by decide +kernel
theorem dL_law_1168 : decode cL_law 1168 = .ok (.invokevirtual 164, 3) := by decide +kernel
theorem dL_law_1171 : decode cL_law 1171 = .ok (.aload_n 2, 1) := by decide +kernel
theorem dL_law_1172 : decode cL_law 1172 = .ok (.aload_n 0, 1) := by decide +kernel
theorem dL_law_1173 : decode cL_law 1173 = .ok (.iload_n 3, 1) := by decide +kernel
theorem dL_law_1174 : decode cL_law 1174 = .ok (.iconst 1, 1) := by decide +kernel
theorem dL_law_1175 : decode cL_law 1175 = .ok (.iadd, 1) := by decide +kernel
theorem dL_law_1176 : decode cL_law 1176 = .ok (.iaload, 1) := by decide +kernel
theorem dL_law_1177 : decode cL_law 1177 = .ok (.invokevirtual 167, 3) := by decide +kernel
theorem dL_law_1180 : decode cL_law 1180 = .ok (.if_icmp .eq 19, 3) := by decide +kernel
theorem dL_law_1183 : decode cL_law 1183 = .ok (.iconst 0, 1) := by decide +kernel
theorem dL_law_1184 : decode cL_law 1184 = .ok (.ireturn, 1) := by decide +kernel
theorem dL_law_1185 : decode cL_law 1185 = .ok (.aload_n 1, 1) := by decide +kernel
theorem dL_law_1186 : decode cL_law 1186 = .ok (.invokevirtual 168, 3) := by decide +kernel
theorem dL_law_1189 : decode cL_law 1189 = .ok (.aload_n 2, 1) := by decide +kernel
theorem dL_law_1190 : decode cL_law 1190 = .ok (.invokevirtual 172, 3) := by decide +kernel
theorem dL_law_1193 : decode cL_law 1193 = .ok (.lcmp, 1) := by decide +kernel
theorem dL_law_1194 : decode cL_law 1194 = .ok (.ifCond .eq 5, 3) := by decide +kernel
theorem dL_law_1197 : decode cL_law 1197 = .ok (.iconst 0, 1) := by decide +kernel
theorem dL_law_1198 : decode cL_law 1198 = .ok (.ireturn, 1) := by decide +kernel
theorem dL_law_1199 : decode cL_law 1199 = .ok (.iinc 3 5, 3) := by decide +kernel
theorem dL_law_1202 : decode cL_law 1202 = .ok (.goto (-1184), 3) := by decide +kernel
theorem dL_law_1205 : decode cL_law 1205 = .ok (.iconst 1, 1) := by decide +kernel
theorem dL_law_1206 : decode cL_law 1206 = .ok (.ireturn, 1) := by decide +kernel
abbrev vwCl : List vw_C := [(RX0, TX0, 5), (RX1, TX1, 6), (RX2, TX2, 2), (RX3, TX3, 1), (RX4, TX4, 3), (RX5, TX5, 4), (RX6, TX6, 12), (RX7, TX7, 25)]
