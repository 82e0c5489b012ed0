theorem mem_by {ws big : List Cond} (ps : List Nat) (hp : ws = ps.filterMap (fun i => big[i]?)) : ∀ w ∈ ws, w ∈ big := by
  intro w hw
  rw [hp] at hw
  obtain ⟨i, -, hi⟩ := List.mem_filterMap.mp hw
  exact List.mem_of_getElem? hi
theorem lays_in {ws : List Cond} (ps : List Nat) (hp : ws = ps.filterMap (fun i => lw_tbl[i]?)) (hg : ws.all goodWord = true) : ∀ w ∈ ws, w ∈ lw_g := fun w hw => List.mem_filter.mpr ⟨mem_by ps hp w hw, List.all_eq_true.mp hg w hw⟩
abbrev zX0_init : MI := (yX0_init, cX0_init, 3, none)
theorem cz_X0_init : wz zX0_init ∈ lw_g := lw_g_in (i := 150) (by decide +kernel) rfl
theorem iz_X0_init : Cond.instanceMethod yX0_init ∈ lw_g := lw_g_in (i := 149) (by decide +kernel) rfl
theorem dz_X0_init : (zX0_init).1.cls ≠ "java/lang/invoke/MethodHandle" ∧ (zX0_init).1.cls ≠ "java/lang/invoke/VarHandle" ∧ (parseMethodDescriptor (zX0_init).1.desc).map (fun d => d.parameters.length) = some 2 := by decide +kernel
abbrev zX0_bookedHours : MI := (yX0_bookedHours, cX0_bookedHours, 1, (some .int))
theorem cz_X0_bookedHours : wz zX0_bookedHours ∈ lw_g := lw_g_in (i := 244) (by decide +kernel) rfl
theorem iz_X0_bookedHours : Cond.instanceMethod yX0_bookedHours ∈ lw_g := lw_g_in (i := 242) (by decide +kernel) rfl
theorem vz_X0_bookedHours : Cond.selects RX0 yX0_bookedHours yX0_bookedHours ∈ lw_g := lw_g_in (i := 243) (by decide +kernel) rfl
theorem dz_X0_bookedHours : (zX0_bookedHours).1.cls ≠ "java/lang/invoke/MethodHandle" ∧ (zX0_bookedHours).1.cls ≠ "java/lang/invoke/VarHandle" ∧ (parseMethodDescriptor (zX0_bookedHours).1.desc).map (fun d => d.parameters.length) = some 0 := by decide +kernel
abbrev zX0_group : MI := (yX0_group, cX0_group, 1, (some .int))
theorem cz_X0_group : wz zX0_group ∈ lw_g := lw_g_in (i := 217) (by decide +kernel) rfl
theorem iz_X0_group : Cond.instanceMethod yX0_group ∈ lw_g := lw_g_in (i := 215) (by decide +kernel) rfl
theorem vz_X0_group : Cond.selects RX0 yX0_group yX0_group ∈ lw_g := lw_g_in (i := 216) (by decide +kernel) rfl
theorem dz_X0_group : (zX0_group).1.cls ≠ "java/lang/invoke/MethodHandle" ∧ (zX0_group).1.cls ≠ "java/lang/invoke/VarHandle" ∧ (parseMethodDescriptor (zX0_group).1.desc).map (fun d => d.parameters.length) = some 0 := by decide +kernel
abbrev zX1_init : MI := (yX1_init, cX1_init, 1, none)
theorem cz_X1_init : wz zX1_init ∈ lw_g := lw_g_in (i := 71) (by decide +kernel) rfl
theorem iz_X1_init : Cond.instanceMethod yX1_init ∈ lw_g := lw_g_in (i := 70) (by decide +kernel) rfl
theorem dz_X1_init : (zX1_init).1.cls ≠ "java/lang/invoke/MethodHandle" ∧ (zX1_init).1.cls ≠ "java/lang/invoke/VarHandle" ∧ (parseMethodDescriptor (zX1_init).1.desc).map (fun d => d.parameters.length) = some 0 := by decide +kernel
abbrev zX1_join : MI := (yX1_join, cX1_join, 4, (some .int))
theorem cz_X1_join : wz zX1_join ∈ lw_g := lw_g_in (i := 332) (by decide +kernel) rfl
theorem iz_X1_join : Cond.instanceMethod yX1_join ∈ lw_g := lw_g_in (i := 330) (by decide +kernel) rfl
theorem vz_X1_join : Cond.selects RX1 yX1_join yX1_join ∈ lw_g := lw_g_in (i := 331) (by decide +kernel) rfl
theorem dz_X1_join : (zX1_join).1.cls ≠ "java/lang/invoke/MethodHandle" ∧ (zX1_join).1.cls ≠ "java/lang/invoke/VarHandle" ∧ (parseMethodDescriptor (zX1_join).1.desc).map (fun d => d.parameters.length) = some 3 := by decide +kernel
abbrev zX1_leastCostBelow : MI := (yX1_leastCostBelow, cX1_leastCostBelow, 2, (some .int))
theorem cz_X1_leastCostBelow : wz zX1_leastCostBelow ∈ lw_g := lw_g_in (i := 536) (by decide +kernel) rfl
theorem iz_X1_leastCostBelow : Cond.instanceMethod yX1_leastCostBelow ∈ lw_g := lw_g_in (i := 534) (by decide +kernel) rfl
theorem vz_X1_leastCostBelow : Cond.selects RX1 yX1_leastCostBelow yX1_leastCostBelow ∈ lw_g := lw_g_in (i := 535) (by decide +kernel) rfl
theorem dz_X1_leastCostBelow : (zX1_leastCostBelow).1.cls ≠ "java/lang/invoke/MethodHandle" ∧ (zX1_leastCostBelow).1.cls ≠ "java/lang/invoke/VarHandle" ∧ (parseMethodDescriptor (zX1_leastCostBelow).1.desc).map (fun d => d.parameters.length) = some 1 := by decide +kernel
abbrev zX1_coverFrom : MI := (yX1_coverFrom, cX1_coverFrom, 4, none)
theorem cz_X1_coverFrom : wz zX1_coverFrom ∈ lw_g := lw_g_in (i := 539) (by decide +kernel) rfl
theorem sz_X1_coverFrom : Cond.static yX1_coverFrom ∈ lw_g := lw_g_in (i := 538) (by decide +kernel) rfl
theorem dz_X1_coverFrom : (zX1_coverFrom).1.cls ≠ "java/lang/invoke/MethodHandle" ∧ (zX1_coverFrom).1.cls ≠ "java/lang/invoke/VarHandle" ∧ (parseMethodDescriptor (zX1_coverFrom).1.desc).map (fun d => d.parameters.length) = some 3 := by decide +kernel
abbrev zX1_keepSets : MI := (yX1_keepSets, cX1_keepSets, 3, none)
theorem cz_X1_keepSets : wz zX1_keepSets ∈ lw_g := lw_g_in (i := 544) (by decide +kernel) rfl
theorem iz_X1_keepSets : Cond.instanceMethod yX1_keepSets ∈ lw_g := lw_g_in (i := 543) (by decide +kernel) rfl
theorem vz_X1_keepSets : Cond.selects RX1 yX1_keepSets yX1_keepSets ∈ lw_g := lw_g_in (i := 24) (by decide +kernel) rfl
theorem dz_X1_keepSets : (zX1_keepSets).1.cls ≠ "java/lang/invoke/MethodHandle" ∧ (zX1_keepSets).1.cls ≠ "java/lang/invoke/VarHandle" ∧ (parseMethodDescriptor (zX1_keepSets).1.desc).map (fun d => d.parameters.length) = some 1 := by decide +kernel
abbrev zX1_canGive : MI := (yX1_canGive, cX1_canGive, 5, (some .boolean))
theorem cz_X1_canGive : wz zX1_canGive ∈ lw_g := lw_g_in (i := 548) (by decide +kernel) rfl
theorem iz_X1_canGive : Cond.instanceMethod yX1_canGive ∈ lw_g := lw_g_in (i := 547) (by decide +kernel) rfl
theorem vz_X1_canGive : Cond.selects RX1 yX1_canGive yX1_canGive ∈ lw_g := lw_g_in (i := 25) (by decide +kernel) rfl
theorem dz_X1_canGive : (zX1_canGive).1.cls ≠ "java/lang/invoke/MethodHandle" ∧ (zX1_canGive).1.cls ≠ "java/lang/invoke/VarHandle" ∧ (parseMethodDescriptor (zX1_canGive).1.desc).map (fun d => d.parameters.length) = some 2 := by decide +kernel
abbrev zX1_give : MI := (yX1_give, cX1_give, 5, none)
theorem cz_X1_give : wz zX1_give ∈ lw_g := lw_g_in (i := 565) (by decide +kernel) rfl
theorem iz_X1_give : Cond.instanceMethod yX1_give ∈ lw_g := lw_g_in (i := 564) (by decide +kernel) rfl
theorem vz_X1_give : Cond.selects RX1 yX1_give yX1_give ∈ lw_g := lw_g_in (i := 26) (by decide +kernel) rfl
theorem dz_X1_give : (zX1_give).1.cls ≠ "java/lang/invoke/MethodHandle" ∧ (zX1_give).1.cls ≠ "java/lang/invoke/VarHandle" ∧ (parseMethodDescriptor (zX1_give).1.desc).map (fun d => d.parameters.length) = some 2 := by decide +kernel
abbrev zX1_wagesOf : MI := (yX1_wagesOf, cX1_wagesOf, 5, (some .int))
theorem cz_X1_wagesOf : wz zX1_wagesOf ∈ lw_g := lw_g_in (i := 569) (by decide +kernel) rfl
theorem iz_X1_wagesOf : Cond.instanceMethod yX1_wagesOf ∈ lw_g := lw_g_in (i := 568) (by decide +kernel) rfl
theorem vz_X1_wagesOf : Cond.selects RX1 yX1_wagesOf yX1_wagesOf ∈ lw_g := lw_g_in (i := 27) (by decide +kernel) rfl
theorem dz_X1_wagesOf : (zX1_wagesOf).1.cls ≠ "java/lang/invoke/MethodHandle" ∧ (zX1_wagesOf).1.cls ≠ "java/lang/invoke/VarHandle" ∧ (parseMethodDescriptor (zX1_wagesOf).1.desc).map (fun d => d.parameters.length) = some 1 := by decide +kernel
abbrev zX1_isIn : MI := (yX1_isIn, cX1_isIn, 2, (some .boolean))
theorem cz_X1_isIn : wz zX1_isIn ∈ lw_g := lw_g_in (i := 557) (by decide +kernel) rfl
theorem sz_X1_isIn : Cond.static yX1_isIn ∈ lw_g := lw_g_in (i := 556) (by decide +kernel) rfl
theorem dz_X1_isIn : (zX1_isIn).1.cls ≠ "java/lang/invoke/MethodHandle" ∧ (zX1_isIn).1.cls ≠ "java/lang/invoke/VarHandle" ∧ (parseMethodDescriptor (zX1_isIn).1.desc).map (fun d => d.parameters.length) = some 2 := by decide +kernel
abbrev zX2_init : MI := (yX2_init, cX2_init, 1, none)
theorem cz_X2_init : wz zX2_init ∈ lw_g := lw_g_in (i := 286) (by decide +kernel) rfl
theorem iz_X2_init : Cond.instanceMethod yX2_init ∈ lw_g := lw_g_in (i := 285) (by decide +kernel) rfl
theorem dz_X2_init : (zX2_init).1.cls ≠ "java/lang/invoke/MethodHandle" ∧ (zX2_init).1.cls ≠ "java/lang/invoke/VarHandle" ∧ (parseMethodDescriptor (zX2_init).1.desc).map (fun d => d.parameters.length) = some 0 := by decide +kernel
abbrev zX2_hasHoliday : MI := (yX2_hasHoliday, cX2_hasHoliday, 2, (some .boolean))
theorem cz_X2_hasHoliday : wz zX2_hasHoliday ∈ lw_g := lw_g_in (i := 514) (by decide +kernel) rfl
theorem iz_X2_hasHoliday : Cond.instanceMethod yX2_hasHoliday ∈ lw_g := lw_g_in (i := 512) (by decide +kernel) rfl
theorem vz_X2_hasHoliday : Cond.selects RX2 yX2_hasHoliday yX2_hasHoliday ∈ lw_g := lw_g_in (i := 513) (by decide +kernel) rfl
theorem dz_X2_hasHoliday : (zX2_hasHoliday).1.cls ≠ "java/lang/invoke/MethodHandle" ∧ (zX2_hasHoliday).1.cls ≠ "java/lang/invoke/VarHandle" ∧ (parseMethodDescriptor (zX2_hasHoliday).1.desc).map (fun d => d.parameters.length) = some 1 := by decide +kernel
abbrev zX3_init : MI := (yX3_init, cX3_init, 1, none)
theorem cz_X3_init : wz zX3_init ∈ lw_g := lw_g_in (i := 100) (by decide +kernel) rfl
theorem iz_X3_init : Cond.instanceMethod yX3_init ∈ lw_g := lw_g_in (i := 99) (by decide +kernel) rfl
theorem dz_X3_init : (zX3_init).1.cls ≠ "java/lang/invoke/MethodHandle" ∧ (zX3_init).1.cls ≠ "java/lang/invoke/VarHandle" ∧ (parseMethodDescriptor (zX3_init).1.desc).map (fun d => d.parameters.length) = some 0 := by decide +kernel
abbrev zX3_clear : MI := (yX3_clear, cX3_clear, 2, none)
theorem cz_X3_clear : wz zX3_clear ∈ lw_g := lw_g_in (i := 213) (by decide +kernel) rfl
theorem iz_X3_clear : Cond.instanceMethod yX3_clear ∈ lw_g := lw_g_in (i := 211) (by decide +kernel) rfl
theorem vz_X3_clear : Cond.selects RX3 yX3_clear yX3_clear ∈ lw_g := lw_g_in (i := 212) (by decide +kernel) rfl
theorem dz_X3_clear : (zX3_clear).1.cls ≠ "java/lang/invoke/MethodHandle" ∧ (zX3_clear).1.cls ≠ "java/lang/invoke/VarHandle" ∧ (parseMethodDescriptor (zX3_clear).1.desc).map (fun d => d.parameters.length) = some 0 := by decide +kernel
abbrev zX3_add : MI := (yX3_add, cX3_add, 2, none)
theorem cz_X3_add : wz zX3_add ∈ lw_g := lw_g_in (i := 221) (by decide +kernel) rfl
theorem iz_X3_add : Cond.instanceMethod yX3_add ∈ lw_g := lw_g_in (i := 219) (by decide +kernel) rfl
theorem vz_X3_add : Cond.selects RX3 yX3_add yX3_add ∈ lw_g := lw_g_in (i := 220) (by decide +kernel) rfl
theorem dz_X3_add : (zX3_add).1.cls ≠ "java/lang/invoke/MethodHandle" ∧ (zX3_add).1.cls ≠ "java/lang/invoke/VarHandle" ∧ (parseMethodDescriptor (zX3_add).1.desc).map (fun d => d.parameters.length) = some 1 := by decide +kernel
abbrev zX3_total : MI := (yX3_total, cX3_total, 1, (some .int))
theorem cz_X3_total : wz zX3_total ∈ lw_g := lw_g_in (i := 232) (by decide +kernel) rfl
theorem iz_X3_total : Cond.instanceMethod yX3_total ∈ lw_g := lw_g_in (i := 230) (by decide +kernel) rfl
theorem vz_X3_total : Cond.selects RX3 yX3_total yX3_total ∈ lw_g := lw_g_in (i := 231) (by decide +kernel) rfl
theorem dz_X3_total : (zX3_total).1.cls ≠ "java/lang/invoke/MethodHandle" ∧ (zX3_total).1.cls ≠ "java/lang/invoke/VarHandle" ∧ (parseMethodDescriptor (zX3_total).1.desc).map (fun d => d.parameters.length) = some 0 := by decide +kernel
abbrev zX3_needAt : MI := (yX3_needAt, cX3_needAt, 6, (some .int))
theorem cz_X3_needAt : wz zX3_needAt ∈ lw_g := lw_g_in (i := 236) (by decide +kernel) rfl
theorem iz_X3_needAt : Cond.instanceMethod yX3_needAt ∈ lw_g := lw_g_in (i := 234) (by decide +kernel) rfl
theorem vz_X3_needAt : Cond.selects RX3 yX3_needAt yX3_needAt ∈ lw_g := lw_g_in (i := 235) (by decide +kernel) rfl
theorem dz_X3_needAt : (zX3_needAt).1.cls ≠ "java/lang/invoke/MethodHandle" ∧ (zX3_needAt).1.cls ≠ "java/lang/invoke/VarHandle" ∧ (parseMethodDescriptor (zX3_needAt).1.desc).map (fun d => d.parameters.length) = some 3 := by decide +kernel
abbrev zX4_init : MI := (yX4_init, cX4_init, 1, none)
theorem cz_X4_init : wz zX4_init ∈ lw_g := lw_g_in (i := 55) (by decide +kernel) rfl
theorem iz_X4_init : Cond.instanceMethod yX4_init ∈ lw_g := lw_g_in (i := 54) (by decide +kernel) rfl
theorem dz_X4_init : (zX4_init).1.cls ≠ "java/lang/invoke/MethodHandle" ∧ (zX4_init).1.cls ≠ "java/lang/invoke/VarHandle" ∧ (parseMethodDescriptor (zX4_init).1.desc).map (fun d => d.parameters.length) = some 0 := by decide +kernel
abbrev zX5_init : MI := (yX5_init, cX5_init, 4, none)
theorem cz_X5_init : wz zX5_init ∈ lw_g := lw_g_in (i := 336) (by decide +kernel) rfl
theorem iz_X5_init : Cond.instanceMethod yX5_init ∈ lw_g := lw_g_in (i := 335) (by decide +kernel) rfl
theorem dz_X5_init : (zX5_init).1.cls ≠ "java/lang/invoke/MethodHandle" ∧ (zX5_init).1.cls ≠ "java/lang/invoke/VarHandle" ∧ (parseMethodDescriptor (zX5_init).1.desc).map (fun d => d.parameters.length) = some 3 := by decide +kernel
abbrev zX5_canTake : MI := (yX5_canTake, cX5_canTake, 2, (some .boolean))
theorem cz_X5_canTake : wz zX5_canTake ∈ lw_g := lw_g_in (i := 561) (by decide +kernel) rfl
theorem iz_X5_canTake : Cond.instanceMethod yX5_canTake ∈ lw_g := lw_g_in (i := 559) (by decide +kernel) rfl
theorem vz_X5_canTake : Cond.selects RX5 yX5_canTake yX5_canTake ∈ lw_g := lw_g_in (i := 560) (by decide +kernel) rfl
theorem dz_X5_canTake : (zX5_canTake).1.cls ≠ "java/lang/invoke/MethodHandle" ∧ (zX5_canTake).1.cls ≠ "java/lang/invoke/VarHandle" ∧ (parseMethodDescriptor (zX5_canTake).1.desc).map (fun d => d.parameters.length) = some 1 := by decide +kernel
abbrev zX6_init : MI := (yX6_init, cX6_init, 1, none)
theorem cz_X6_init : wz zX6_init ∈ lw_g := lw_g_in (i := 43) (by decide +kernel) rfl
theorem iz_X6_init : Cond.instanceMethod yX6_init ∈ lw_g := lw_g_in (i := 42) (by decide +kernel) rfl
theorem dz_X6_init : (zX6_init).1.cls ≠ "java/lang/invoke/MethodHandle" ∧ (zX6_init).1.cls ≠ "java/lang/invoke/VarHandle" ∧ (parseMethodDescriptor (zX6_init).1.desc).map (fun d => d.parameters.length) = some 0 := by decide +kernel
abbrev zX6_addChild : MI := (yX6_addChild, cX6_addChild, 4, (some .int))
theorem cz_X6_addChild : wz zX6_addChild ∈ lw_g := lw_g_in (i := 146) (by decide +kernel) rfl
theorem iz_X6_addChild : Cond.instanceMethod yX6_addChild ∈ lw_g := lw_g_in (i := 144) (by decide +kernel) rfl
theorem vz_X6_addChild : Cond.selects RX6 yX6_addChild yX6_addChild ∈ lw_g := lw_g_in (i := 145) (by decide +kernel) rfl
theorem dz_X6_addChild : (zX6_addChild).1.cls ≠ "java/lang/invoke/MethodHandle" ∧ (zX6_addChild).1.cls ≠ "java/lang/invoke/VarHandle" ∧ (parseMethodDescriptor (zX6_addChild).1.desc).map (fun d => d.parameters.length) = some 2 := by decide +kernel
abbrev zX6_children : MI := (yX6_children, cX6_children, 6, (some .int))
theorem cz_X6_children : wz zX6_children ∈ lw_g := lw_g_in (i := 491) (by decide +kernel) rfl
theorem iz_X6_children : Cond.instanceMethod yX6_children ∈ lw_g := lw_g_in (i := 489) (by decide +kernel) rfl
theorem vz_X6_children : Cond.selects RX6 yX6_children yX6_children ∈ lw_g := lw_g_in (i := 490) (by decide +kernel) rfl
theorem dz_X6_children : (zX6_children).1.cls ≠ "java/lang/invoke/MethodHandle" ∧ (zX6_children).1.cls ≠ "java/lang/invoke/VarHandle" ∧ (parseMethodDescriptor (zX6_children).1.desc).map (fun d => d.parameters.length) = some 0 := by decide +kernel
abbrev zX6_age : MI := (yX6_age, cX6_age, 3, (some .int))
theorem cz_X6_age : wz zX6_age ∈ lw_g := lw_g_in (i := 398) (by decide +kernel) rfl
theorem iz_X6_age : Cond.instanceMethod yX6_age ∈ lw_g := lw_g_in (i := 396) (by decide +kernel) rfl
theorem vz_X6_age : Cond.selects RX6 yX6_age yX6_age ∈ lw_g := lw_g_in (i := 397) (by decide +kernel) rfl
theorem dz_X6_age : (zX6_age).1.cls ≠ "java/lang/invoke/MethodHandle" ∧ (zX6_age).1.cls ≠ "java/lang/invoke/VarHandle" ∧ (parseMethodDescriptor (zX6_age).1.desc).map (fun d => d.parameters.length) = some 1 := by decide +kernel
abbrev zX6_isAdmitted : MI := (yX6_isAdmitted, cX6_isAdmitted, 3, (some .int))
theorem cz_X6_isAdmitted : wz zX6_isAdmitted ∈ lw_g := lw_g_in (i := 402) (by decide +kernel) rfl
theorem iz_X6_isAdmitted : Cond.instanceMethod yX6_isAdmitted ∈ lw_g := lw_g_in (i := 400) (by decide +kernel) rfl
theorem vz_X6_isAdmitted : Cond.selects RX6 yX6_isAdmitted yX6_isAdmitted ∈ lw_g := lw_g_in (i := 401) (by decide +kernel) rfl
theorem dz_X6_isAdmitted : (zX6_isAdmitted).1.cls ≠ "java/lang/invoke/MethodHandle" ∧ (zX6_isAdmitted).1.cls ≠ "java/lang/invoke/VarHandle" ∧ (parseMethodDescriptor (zX6_isAdmitted).1.desc).map (fun d => d.parameters.length) = some 1 := by decide +kernel
abbrev zX6_hours : MI := (yX6_hours, cX6_hours, 3, (some .int))
theorem cz_X6_hours : wz zX6_hours ∈ lw_g := lw_g_in (i := 406) (by decide +kernel) rfl
theorem iz_X6_hours : Cond.instanceMethod yX6_hours ∈ lw_g := lw_g_in (i := 404) (by decide +kernel) rfl
theorem vz_X6_hours : Cond.selects RX6 yX6_hours yX6_hours ∈ lw_g := lw_g_in (i := 405) (by decide +kernel) rfl
theorem dz_X6_hours : (zX6_hours).1.cls ≠ "java/lang/invoke/MethodHandle" ∧ (zX6_hours).1.cls ≠ "java/lang/invoke/VarHandle" ∧ (parseMethodDescriptor (zX6_hours).1.desc).map (fun d => d.parameters.length) = some 1 := by decide +kernel
abbrev zX6_book : MI := (yX6_book, cX6_book, 6, (some .int))
theorem cz_X6_book : wz zX6_book ∈ lw_g := lw_g_in (i := 174) (by decide +kernel) rfl
theorem iz_X6_book : Cond.instanceMethod yX6_book ∈ lw_g := lw_g_in (i := 172) (by decide +kernel) rfl
theorem vz_X6_book : Cond.selects RX6 yX6_book yX6_book ∈ lw_g := lw_g_in (i := 173) (by decide +kernel) rfl
theorem dz_X6_book : (zX6_book).1.cls ≠ "java/lang/invoke/MethodHandle" ∧ (zX6_book).1.cls ≠ "java/lang/invoke/VarHandle" ∧ (parseMethodDescriptor (zX6_book).1.desc).map (fun d => d.parameters.length) = some 4 := by decide +kernel
abbrev zX6_childAt : MI := (yX6_childAt, cX6_childAt, 2, (some (.object "KindergartenPlanner$Child")))
theorem cz_X6_childAt : wz zX6_childAt ∈ lw_g := lw_g_in (i := 178) (by decide +kernel) rfl
theorem iz_X6_childAt : Cond.instanceMethod yX6_childAt ∈ lw_g := lw_g_in (i := 177) (by decide +kernel) rfl
theorem vz_X6_childAt : Cond.selects RX6 yX6_childAt yX6_childAt ∈ lw_g := lw_g_in (i := 0) (by decide +kernel) rfl
theorem dz_X6_childAt : (zX6_childAt).1.cls ≠ "java/lang/invoke/MethodHandle" ∧ (zX6_childAt).1.cls ≠ "java/lang/invoke/VarHandle" ∧ (parseMethodDescriptor (zX6_childAt).1.desc).map (fun d => d.parameters.length) = some 1 := by decide +kernel
abbrev zX6_rebook : MI := (yX6_rebook, cX6_rebook, 6, (some .int))
theorem cz_X6_rebook : wz zX6_rebook ∈ lw_g := lw_g_in (i := 198) (by decide +kernel) rfl
theorem iz_X6_rebook : Cond.instanceMethod yX6_rebook ∈ lw_g := lw_g_in (i := 197) (by decide +kernel) rfl
theorem vz_X6_rebook : Cond.selects RX6 yX6_rebook yX6_rebook ∈ lw_g := lw_g_in (i := 1) (by decide +kernel) rfl
theorem dz_X6_rebook : (zX6_rebook).1.cls ≠ "java/lang/invoke/MethodHandle" ∧ (zX6_rebook).1.cls ≠ "java/lang/invoke/VarHandle" ∧ (parseMethodDescriptor (zX6_rebook).1.desc).map (fun d => d.parameters.length) = some 2 := by decide +kernel
abbrev zX6_waited : MI := (yX6_waited, cX6_waited, 3, (some .int))
theorem cz_X6_waited : wz zX6_waited ∈ lw_g := lw_g_in (i := 414) (by decide +kernel) rfl
theorem iz_X6_waited : Cond.instanceMethod yX6_waited ∈ lw_g := lw_g_in (i := 412) (by decide +kernel) rfl
theorem vz_X6_waited : Cond.selects RX6 yX6_waited yX6_waited ∈ lw_g := lw_g_in (i := 413) (by decide +kernel) rfl
theorem dz_X6_waited : (zX6_waited).1.cls ≠ "java/lang/invoke/MethodHandle" ∧ (zX6_waited).1.cls ≠ "java/lang/invoke/VarHandle" ∧ (parseMethodDescriptor (zX6_waited).1.desc).map (fun d => d.parameters.length) = some 1 := by decide +kernel
abbrev zX6_points : MI := (yX6_points, cX6_points, 3, (some .int))
theorem cz_X6_points : wz zX6_points ∈ lw_g := lw_g_in (i := 410) (by decide +kernel) rfl
theorem iz_X6_points : Cond.instanceMethod yX6_points ∈ lw_g := lw_g_in (i := 408) (by decide +kernel) rfl
theorem vz_X6_points : Cond.selects RX6 yX6_points yX6_points ∈ lw_g := lw_g_in (i := 409) (by decide +kernel) rfl
theorem dz_X6_points : (zX6_points).1.cls ≠ "java/lang/invoke/MethodHandle" ∧ (zX6_points).1.cls ≠ "java/lang/invoke/VarHandle" ∧ (parseMethodDescriptor (zX6_points).1.desc).map (fun d => d.parameters.length) = some 1 := by decide +kernel
abbrev zX6_waiting : MI := (yX6_waiting, cX6_waiting, 4, (some .int))
theorem cz_X6_waiting : wz zX6_waiting ∈ lw_g := lw_g_in (i := 441) (by decide +kernel) rfl
theorem iz_X6_waiting : Cond.instanceMethod yX6_waiting ∈ lw_g := lw_g_in (i := 439) (by decide +kernel) rfl
theorem vz_X6_waiting : Cond.selects RX6 yX6_waiting yX6_waiting ∈ lw_g := lw_g_in (i := 440) (by decide +kernel) rfl
theorem dz_X6_waiting : (zX6_waiting).1.cls ≠ "java/lang/invoke/MethodHandle" ∧ (zX6_waiting).1.cls ≠ "java/lang/invoke/VarHandle" ∧ (parseMethodDescriptor (zX6_waiting).1.desc).map (fun d => d.parameters.length) = some 1 := by decide +kernel
abbrev zX6_admit : MI := (yX6_admit, cX6_admit, 4, (some .int))
theorem cz_X6_admit : wz zX6_admit ∈ lw_g := lw_g_in (i := 254) (by decide +kernel) rfl
theorem iz_X6_admit : Cond.instanceMethod yX6_admit ∈ lw_g := lw_g_in (i := 252) (by decide +kernel) rfl
theorem vz_X6_admit : Cond.selects RX6 yX6_admit yX6_admit ∈ lw_g := lw_g_in (i := 253) (by decide +kernel) rfl
theorem dz_X6_admit : (zX6_admit).1.cls ≠ "java/lang/invoke/MethodHandle" ∧ (zX6_admit).1.cls ≠ "java/lang/invoke/VarHandle" ∧ (parseMethodDescriptor (zX6_admit).1.desc).map (fun d => d.parameters.length) = some 0 := by decide +kernel
abbrev zX6_pointsOf : MI := (yX6_pointsOf, cX6_pointsOf, 3, (some .int))
theorem cz_X6_pointsOf : wz zX6_pointsOf ∈ lw_g := lw_g_in (i := 270) (by decide +kernel) rfl
theorem iz_X6_pointsOf : Cond.instanceMethod yX6_pointsOf ∈ lw_g := lw_g_in (i := 269) (by decide +kernel) rfl
theorem vz_X6_pointsOf : Cond.selects RX6 yX6_pointsOf yX6_pointsOf ∈ lw_g := lw_g_in (i := 9) (by decide +kernel) rfl
theorem dz_X6_pointsOf : (zX6_pointsOf).1.cls ≠ "java/lang/invoke/MethodHandle" ∧ (zX6_pointsOf).1.cls ≠ "java/lang/invoke/VarHandle" ∧ (parseMethodDescriptor (zX6_pointsOf).1.desc).map (fun d => d.parameters.length) = some 1 := by decide +kernel
abbrev zX6_hasAdmittedChild : MI := (yX6_hasAdmittedChild, cX6_hasAdmittedChild, 6, (some .boolean))
theorem cz_X6_hasAdmittedChild : wz zX6_hasAdmittedChild ∈ lw_g := lw_g_in (i := 274) (by decide +kernel) rfl
theorem iz_X6_hasAdmittedChild : Cond.instanceMethod yX6_hasAdmittedChild ∈ lw_g := lw_g_in (i := 273) (by decide +kernel) rfl
theorem vz_X6_hasAdmittedChild : Cond.selects RX6 yX6_hasAdmittedChild yX6_hasAdmittedChild ∈ lw_g := lw_g_in (i := 10) (by decide +kernel) rfl
theorem dz_X6_hasAdmittedChild : (zX6_hasAdmittedChild).1.cls ≠ "java/lang/invoke/MethodHandle" ∧ (zX6_hasAdmittedChild).1.cls ≠ "java/lang/invoke/VarHandle" ∧ (parseMethodDescriptor (zX6_hasAdmittedChild).1.desc).map (fun d => d.parameters.length) = some 1 := by decide +kernel
abbrev zX6_notePriorities : MI := (yX6_notePriorities, cX6_notePriorities, 4, none)
theorem cz_X6_notePriorities : wz zX6_notePriorities ∈ lw_g := lw_g_in (i := 262) (by decide +kernel) rfl
theorem iz_X6_notePriorities : Cond.instanceMethod yX6_notePriorities ∈ lw_g := lw_g_in (i := 261) (by decide +kernel) rfl
theorem vz_X6_notePriorities : Cond.selects RX6 yX6_notePriorities yX6_notePriorities ∈ lw_g := lw_g_in (i := 7) (by decide +kernel) rfl
theorem dz_X6_notePriorities : (zX6_notePriorities).1.cls ≠ "java/lang/invoke/MethodHandle" ∧ (zX6_notePriorities).1.cls ≠ "java/lang/invoke/VarHandle" ∧ (parseMethodDescriptor (zX6_notePriorities).1.desc).map (fun d => d.parameters.length) = some 0 := by decide +kernel
abbrev zX6_priorityOf : MI := (yX6_priorityOf, cX6_priorityOf, 3, (some .int))
theorem cz_X6_priorityOf : wz zX6_priorityOf ∈ lw_g := lw_g_in (i := 266) (by decide +kernel) rfl
theorem iz_X6_priorityOf : Cond.instanceMethod yX6_priorityOf ∈ lw_g := lw_g_in (i := 265) (by decide +kernel) rfl
theorem vz_X6_priorityOf : Cond.selects RX6 yX6_priorityOf yX6_priorityOf ∈ lw_g := lw_g_in (i := 8) (by decide +kernel) rfl
theorem dz_X6_priorityOf : (zX6_priorityOf).1.cls ≠ "java/lang/invoke/MethodHandle" ∧ (zX6_priorityOf).1.cls ≠ "java/lang/invoke/VarHandle" ∧ (parseMethodDescriptor (zX6_priorityOf).1.desc).map (fun d => d.parameters.length) = some 2 := by decide +kernel
abbrev zX6_countAbove : MI := (yX6_countAbove, cX6_countAbove, 7, (some .int))
theorem cz_X6_countAbove : wz zX6_countAbove ∈ lw_g := lw_g_in (i := 445) (by decide +kernel) rfl
theorem iz_X6_countAbove : Cond.instanceMethod yX6_countAbove ∈ lw_g := lw_g_in (i := 444) (by decide +kernel) rfl
theorem vz_X6_countAbove : Cond.selects RX6 yX6_countAbove yX6_countAbove ∈ lw_g := lw_g_in (i := 17) (by decide +kernel) rfl
theorem dz_X6_countAbove : (zX6_countAbove).1.cls ≠ "java/lang/invoke/MethodHandle" ∧ (zX6_countAbove).1.cls ≠ "java/lang/invoke/VarHandle" ∧ (parseMethodDescriptor (zX6_countAbove).1.desc).map (fun d => d.parameters.length) = some 1 := by decide +kernel
abbrev zX6_firstThatCanBeAdmitted : MI := (yX6_firstThatCanBeAdmitted, cX6_firstThatCanBeAdmitted, 5, (some (.object "KindergartenPlanner$Child")))
theorem cz_X6_firstThatCanBeAdmitted : wz zX6_firstThatCanBeAdmitted ∈ lw_g := lw_g_in (i := 258) (by decide +kernel) rfl
theorem iz_X6_firstThatCanBeAdmitted : Cond.instanceMethod yX6_firstThatCanBeAdmitted ∈ lw_g := lw_g_in (i := 257) (by decide +kernel) rfl
theorem vz_X6_firstThatCanBeAdmitted : Cond.selects RX6 yX6_firstThatCanBeAdmitted yX6_firstThatCanBeAdmitted ∈ lw_g := lw_g_in (i := 6) (by decide +kernel) rfl
theorem dz_X6_firstThatCanBeAdmitted : (zX6_firstThatCanBeAdmitted).1.cls ≠ "java/lang/invoke/MethodHandle" ∧ (zX6_firstThatCanBeAdmitted).1.cls ≠ "java/lang/invoke/VarHandle" ∧ (parseMethodDescriptor (zX6_firstThatCanBeAdmitted).1.desc).map (fun d => d.parameters.length) = some 0 := by decide +kernel
abbrev zX6_canBeAdmitted : MI := (yX6_canBeAdmitted, cX6_canBeAdmitted, 2, (some .boolean))
theorem cz_X6_canBeAdmitted : wz zX6_canBeAdmitted ∈ lw_g := lw_g_in (i := 278) (by decide +kernel) rfl
theorem iz_X6_canBeAdmitted : Cond.instanceMethod yX6_canBeAdmitted ∈ lw_g := lw_g_in (i := 277) (by decide +kernel) rfl
theorem vz_X6_canBeAdmitted : Cond.selects RX6 yX6_canBeAdmitted yX6_canBeAdmitted ∈ lw_g := lw_g_in (i := 11) (by decide +kernel) rfl
theorem dz_X6_canBeAdmitted : (zX6_canBeAdmitted).1.cls ≠ "java/lang/invoke/MethodHandle" ∧ (zX6_canBeAdmitted).1.cls ≠ "java/lang/invoke/VarHandle" ∧ (parseMethodDescriptor (zX6_canBeAdmitted).1.desc).map (fun d => d.parameters.length) = some 1 := by decide +kernel
abbrev zX6_addEducator : MI := (yX6_addEducator, cX6_addEducator, 2, (some .int))
theorem cz_X6_addEducator : wz zX6_addEducator ∈ lw_g := lw_g_in (i := 282) (by decide +kernel) rfl
theorem iz_X6_addEducator : Cond.instanceMethod yX6_addEducator ∈ lw_g := lw_g_in (i := 280) (by decide +kernel) rfl
theorem vz_X6_addEducator : Cond.selects RX6 yX6_addEducator yX6_addEducator ∈ lw_g := lw_g_in (i := 281) (by decide +kernel) rfl
theorem dz_X6_addEducator : (zX6_addEducator).1.cls ≠ "java/lang/invoke/MethodHandle" ∧ (zX6_addEducator).1.cls ≠ "java/lang/invoke/VarHandle" ∧ (parseMethodDescriptor (zX6_addEducator).1.desc).map (fun d => d.parameters.length) = some 0 := by decide +kernel
abbrev zX6_work : MI := (yX6_work, cX6_work, 6, (some .int))
theorem cz_X6_work : wz zX6_work ∈ lw_g := lw_g_in (i := 299) (by decide +kernel) rfl
theorem iz_X6_work : Cond.instanceMethod yX6_work ∈ lw_g := lw_g_in (i := 297) (by decide +kernel) rfl
theorem vz_X6_work : Cond.selects RX6 yX6_work yX6_work ∈ lw_g := lw_g_in (i := 298) (by decide +kernel) rfl
theorem dz_X6_work : (zX6_work).1.cls ≠ "java/lang/invoke/MethodHandle" ∧ (zX6_work).1.cls ≠ "java/lang/invoke/VarHandle" ∧ (parseMethodDescriptor (zX6_work).1.desc).map (fun d => d.parameters.length) = some 4 := by decide +kernel
abbrev zX6_setHoliday : MI := (yX6_setHoliday, cX6_setHoliday, 7, (some .int))
theorem cz_X6_setHoliday : wz zX6_setHoliday ∈ lw_g := lw_g_in (i := 308) (by decide +kernel) rfl
theorem iz_X6_setHoliday : Cond.instanceMethod yX6_setHoliday ∈ lw_g := lw_g_in (i := 306) (by decide +kernel) rfl
theorem vz_X6_setHoliday : Cond.selects RX6 yX6_setHoliday yX6_setHoliday ∈ lw_g := lw_g_in (i := 307) (by decide +kernel) rfl
theorem dz_X6_setHoliday : (zX6_setHoliday).1.cls ≠ "java/lang/invoke/MethodHandle" ∧ (zX6_setHoliday).1.cls ≠ "java/lang/invoke/VarHandle" ∧ (parseMethodDescriptor (zX6_setHoliday).1.desc).map (fun d => d.parameters.length) = some 3 := by decide +kernel
abbrev zX6_setRatio : MI := (yX6_setRatio, cX6_setRatio, 4, (some .int))
theorem cz_X6_setRatio : wz zX6_setRatio ∈ lw_g := lw_g_in (i := 315) (by decide +kernel) rfl
theorem iz_X6_setRatio : Cond.instanceMethod yX6_setRatio ∈ lw_g := lw_g_in (i := 313) (by decide +kernel) rfl
theorem vz_X6_setRatio : Cond.selects RX6 yX6_setRatio yX6_setRatio ∈ lw_g := lw_g_in (i := 314) (by decide +kernel) rfl
theorem dz_X6_setRatio : (zX6_setRatio).1.cls ≠ "java/lang/invoke/MethodHandle" ∧ (zX6_setRatio).1.cls ≠ "java/lang/invoke/VarHandle" ∧ (parseMethodDescriptor (zX6_setRatio).1.desc).map (fun d => d.parameters.length) = some 2 := by decide +kernel
abbrev zX6_setRoomLimit : MI := (yX6_setRoomLimit, cX6_setRoomLimit, 3, (some .int))
theorem cz_X6_setRoomLimit : wz zX6_setRoomLimit ∈ lw_g := lw_g_in (i := 320) (by decide +kernel) rfl
theorem iz_X6_setRoomLimit : Cond.instanceMethod yX6_setRoomLimit ∈ lw_g := lw_g_in (i := 318) (by decide +kernel) rfl
theorem vz_X6_setRoomLimit : Cond.selects RX6 yX6_setRoomLimit yX6_setRoomLimit ∈ lw_g := lw_g_in (i := 319) (by decide +kernel) rfl
theorem dz_X6_setRoomLimit : (zX6_setRoomLimit).1.cls ≠ "java/lang/invoke/MethodHandle" ∧ (zX6_setRoomLimit).1.cls ≠ "java/lang/invoke/VarHandle" ∧ (parseMethodDescriptor (zX6_setRoomLimit).1.desc).map (fun d => d.parameters.length) = some 1 := by decide +kernel
abbrev zX6_educatorAt : MI := (yX6_educatorAt, cX6_educatorAt, 2, (some (.object "KindergartenPlanner$Educator")))
theorem cz_X6_educatorAt : wz zX6_educatorAt ∈ lw_g := lw_g_in (i := 303) (by decide +kernel) rfl
theorem iz_X6_educatorAt : Cond.instanceMethod yX6_educatorAt ∈ lw_g := lw_g_in (i := 302) (by decide +kernel) rfl
theorem vz_X6_educatorAt : Cond.selects RX6 yX6_educatorAt yX6_educatorAt ∈ lw_g := lw_g_in (i := 12) (by decide +kernel) rfl
theorem dz_X6_educatorAt : (zX6_educatorAt).1.cls ≠ "java/lang/invoke/MethodHandle" ∧ (zX6_educatorAt).1.cls ≠ "java/lang/invoke/VarHandle" ∧ (parseMethodDescriptor (zX6_educatorAt).1.desc).map (fun d => d.parameters.length) = some 1 := by decide +kernel
abbrev zX6_present : MI := (yX6_present, cX6_present, 3, (some .int))
theorem cz_X6_present : wz zX6_present ∈ lw_g := lw_g_in (i := 457) (by decide +kernel) rfl
