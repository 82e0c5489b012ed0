theorem mem_by {ws big : List Cond} (ps : List Nat) (hp : ws = ps.filterMap (fun i => big[i]?)) : ∀ w ∈ ws, w ∈ big := by
  intro w hw
  rw [hp] at hw
  obtain ⟨i, -, hi⟩ := List.mem_filterMap.mp hw
  exact List.mem_of_getElem? hi
theorem lays_in {ws : List Cond} (ps : List Nat) (hp : ws = ps.filterMap (fun i => lw_tbl[i]?)) (hg : ws.all goodWord = true) : ∀ w ∈ ws, w ∈ lw_g := fun w hw => List.mem_filter.mpr ⟨mem_by ps hp w hw, List.all_eq_true.mp hg w hw⟩
abbrev zX0_init : MI := (yX0_init, cX0_init, 3, none)
theorem cz_X0_init : wz zX0_init ∈ lw_g := lw_g_in (i := 184) (by decide +kernel) rfl
theorem iz_X0_init : Cond.instanceMethod yX0_init ∈ lw_g := lw_g_in (i := 183) (by decide +kernel) rfl
theorem dz_X0_init : (zX0_init).1.cls ≠ "java/lang/invoke/MethodHandle" ∧ (zX0_init).1.cls ≠ "java/lang/invoke/VarHandle" ∧ (parseMethodDescriptor (zX0_init).1.desc).map (fun d => d.parameters.length) = some 2 := by decide +kernel
abbrev zX0_bookedHours : MI := (yX0_bookedHours, cX0_bookedHours, 1, (some .int))
theorem cz_X0_bookedHours : wz zX0_bookedHours ∈ lw_g := lw_g_in (i := 235) (by decide +kernel) rfl
theorem iz_X0_bookedHours : Cond.instanceMethod yX0_bookedHours ∈ lw_g := lw_g_in (i := 233) (by decide +kernel) rfl
theorem vz_X0_bookedHours : Cond.selects RX0 yX0_bookedHours yX0_bookedHours ∈ lw_g := lw_g_in (i := 234) (by decide +kernel) rfl
theorem dz_X0_bookedHours : (zX0_bookedHours).1.cls ≠ "java/lang/invoke/MethodHandle" ∧ (zX0_bookedHours).1.cls ≠ "java/lang/invoke/VarHandle" ∧ (parseMethodDescriptor (zX0_bookedHours).1.desc).map (fun d => d.parameters.length) = some 0 := by decide +kernel
abbrev zX0_group : MI := (yX0_group, cX0_group, 1, (some .int))
theorem cz_X0_group : wz zX0_group ∈ lw_g := lw_g_in (i := 284) (by decide +kernel) rfl
theorem iz_X0_group : Cond.instanceMethod yX0_group ∈ lw_g := lw_g_in (i := 282) (by decide +kernel) rfl
theorem vz_X0_group : Cond.selects RX0 yX0_group yX0_group ∈ lw_g := lw_g_in (i := 283) (by decide +kernel) rfl
theorem dz_X0_group : (zX0_group).1.cls ≠ "java/lang/invoke/MethodHandle" ∧ (zX0_group).1.cls ≠ "java/lang/invoke/VarHandle" ∧ (parseMethodDescriptor (zX0_group).1.desc).map (fun d => d.parameters.length) = some 0 := by decide +kernel
abbrev zX0_growOlder : MI := (yX0_growOlder, cX0_growOlder, 1, none)
theorem cz_X0_growOlder : wz zX0_growOlder ∈ lw_g := lw_g_in (i := 315) (by decide +kernel) rfl
theorem iz_X0_growOlder : Cond.instanceMethod yX0_growOlder ∈ lw_g := lw_g_in (i := 313) (by decide +kernel) rfl
theorem vz_X0_growOlder : Cond.selects RX0 yX0_growOlder yX0_growOlder ∈ lw_g := lw_g_in (i := 314) (by decide +kernel) rfl
theorem dz_X0_growOlder : (zX0_growOlder).1.cls ≠ "java/lang/invoke/MethodHandle" ∧ (zX0_growOlder).1.cls ≠ "java/lang/invoke/VarHandle" ∧ (parseMethodDescriptor (zX0_growOlder).1.desc).map (fun d => d.parameters.length) = some 0 := by decide +kernel
abbrev zX1_init : MI := (yX1_init, cX1_init, 1, none)
theorem cz_X1_init : wz zX1_init ∈ lw_g := lw_g_in (i := 105) (by decide +kernel) rfl
theorem iz_X1_init : Cond.instanceMethod yX1_init ∈ lw_g := lw_g_in (i := 104) (by decide +kernel) rfl
theorem dz_X1_init : (zX1_init).1.cls ≠ "java/lang/invoke/MethodHandle" ∧ (zX1_init).1.cls ≠ "java/lang/invoke/VarHandle" ∧ (parseMethodDescriptor (zX1_init).1.desc).map (fun d => d.parameters.length) = some 0 := by decide +kernel
abbrev zX1_join : MI := (yX1_join, cX1_join, 4, (some .int))
theorem cz_X1_join : wz zX1_join ∈ lw_g := lw_g_in (i := 488) (by decide +kernel) rfl
theorem iz_X1_join : Cond.instanceMethod yX1_join ∈ lw_g := lw_g_in (i := 486) (by decide +kernel) rfl
theorem vz_X1_join : Cond.selects RX1 yX1_join yX1_join ∈ lw_g := lw_g_in (i := 487) (by decide +kernel) rfl
theorem dz_X1_join : (zX1_join).1.cls ≠ "java/lang/invoke/MethodHandle" ∧ (zX1_join).1.cls ≠ "java/lang/invoke/VarHandle" ∧ (parseMethodDescriptor (zX1_join).1.desc).map (fun d => d.parameters.length) = some 3 := by decide +kernel
abbrev zX1_leastCostBelow : MI := (yX1_leastCostBelow, cX1_leastCostBelow, 2, (some .int))
theorem cz_X1_leastCostBelow : wz zX1_leastCostBelow ∈ lw_g := lw_g_in (i := 544) (by decide +kernel) rfl
theorem iz_X1_leastCostBelow : Cond.instanceMethod yX1_leastCostBelow ∈ lw_g := lw_g_in (i := 542) (by decide +kernel) rfl
theorem vz_X1_leastCostBelow : Cond.selects RX1 yX1_leastCostBelow yX1_leastCostBelow ∈ lw_g := lw_g_in (i := 543) (by decide +kernel) rfl
theorem dz_X1_leastCostBelow : (zX1_leastCostBelow).1.cls ≠ "java/lang/invoke/MethodHandle" ∧ (zX1_leastCostBelow).1.cls ≠ "java/lang/invoke/VarHandle" ∧ (parseMethodDescriptor (zX1_leastCostBelow).1.desc).map (fun d => d.parameters.length) = some 1 := by decide +kernel
abbrev zX1_coverFrom : MI := (yX1_coverFrom, cX1_coverFrom, 4, none)
theorem cz_X1_coverFrom : wz zX1_coverFrom ∈ lw_g := lw_g_in (i := 547) (by decide +kernel) rfl
theorem sz_X1_coverFrom : Cond.static yX1_coverFrom ∈ lw_g := lw_g_in (i := 546) (by decide +kernel) rfl
theorem dz_X1_coverFrom : (zX1_coverFrom).1.cls ≠ "java/lang/invoke/MethodHandle" ∧ (zX1_coverFrom).1.cls ≠ "java/lang/invoke/VarHandle" ∧ (parseMethodDescriptor (zX1_coverFrom).1.desc).map (fun d => d.parameters.length) = some 3 := by decide +kernel
abbrev zX1_keepSets : MI := (yX1_keepSets, cX1_keepSets, 3, none)
theorem cz_X1_keepSets : wz zX1_keepSets ∈ lw_g := lw_g_in (i := 552) (by decide +kernel) rfl
theorem iz_X1_keepSets : Cond.instanceMethod yX1_keepSets ∈ lw_g := lw_g_in (i := 551) (by decide +kernel) rfl
theorem vz_X1_keepSets : Cond.selects RX1 yX1_keepSets yX1_keepSets ∈ lw_g := lw_g_in (i := 24) (by decide +kernel) rfl
theorem dz_X1_keepSets : (zX1_keepSets).1.cls ≠ "java/lang/invoke/MethodHandle" ∧ (zX1_keepSets).1.cls ≠ "java/lang/invoke/VarHandle" ∧ (parseMethodDescriptor (zX1_keepSets).1.desc).map (fun d => d.parameters.length) = some 1 := by decide +kernel
abbrev zX1_canGive : MI := (yX1_canGive, cX1_canGive, 5, (some .boolean))
theorem cz_X1_canGive : wz zX1_canGive ∈ lw_g := lw_g_in (i := 556) (by decide +kernel) rfl
theorem iz_X1_canGive : Cond.instanceMethod yX1_canGive ∈ lw_g := lw_g_in (i := 555) (by decide +kernel) rfl
theorem vz_X1_canGive : Cond.selects RX1 yX1_canGive yX1_canGive ∈ lw_g := lw_g_in (i := 25) (by decide +kernel) rfl
theorem dz_X1_canGive : (zX1_canGive).1.cls ≠ "java/lang/invoke/MethodHandle" ∧ (zX1_canGive).1.cls ≠ "java/lang/invoke/VarHandle" ∧ (parseMethodDescriptor (zX1_canGive).1.desc).map (fun d => d.parameters.length) = some 2 := by decide +kernel
abbrev zX1_give : MI := (yX1_give, cX1_give, 5, none)
theorem cz_X1_give : wz zX1_give ∈ lw_g := lw_g_in (i := 573) (by decide +kernel) rfl
theorem iz_X1_give : Cond.instanceMethod yX1_give ∈ lw_g := lw_g_in (i := 572) (by decide +kernel) rfl
theorem vz_X1_give : Cond.selects RX1 yX1_give yX1_give ∈ lw_g := lw_g_in (i := 26) (by decide +kernel) rfl
theorem dz_X1_give : (zX1_give).1.cls ≠ "java/lang/invoke/MethodHandle" ∧ (zX1_give).1.cls ≠ "java/lang/invoke/VarHandle" ∧ (parseMethodDescriptor (zX1_give).1.desc).map (fun d => d.parameters.length) = some 2 := by decide +kernel
abbrev zX1_wagesOf : MI := (yX1_wagesOf, cX1_wagesOf, 5, (some .int))
theorem cz_X1_wagesOf : wz zX1_wagesOf ∈ lw_g := lw_g_in (i := 577) (by decide +kernel) rfl
theorem iz_X1_wagesOf : Cond.instanceMethod yX1_wagesOf ∈ lw_g := lw_g_in (i := 576) (by decide +kernel) rfl
theorem vz_X1_wagesOf : Cond.selects RX1 yX1_wagesOf yX1_wagesOf ∈ lw_g := lw_g_in (i := 27) (by decide +kernel) rfl
theorem dz_X1_wagesOf : (zX1_wagesOf).1.cls ≠ "java/lang/invoke/MethodHandle" ∧ (zX1_wagesOf).1.cls ≠ "java/lang/invoke/VarHandle" ∧ (parseMethodDescriptor (zX1_wagesOf).1.desc).map (fun d => d.parameters.length) = some 1 := by decide +kernel
abbrev zX1_isIn : MI := (yX1_isIn, cX1_isIn, 2, (some .boolean))
theorem cz_X1_isIn : wz zX1_isIn ∈ lw_g := lw_g_in (i := 565) (by decide +kernel) rfl
theorem sz_X1_isIn : Cond.static yX1_isIn ∈ lw_g := lw_g_in (i := 564) (by decide +kernel) rfl
theorem dz_X1_isIn : (zX1_isIn).1.cls ≠ "java/lang/invoke/MethodHandle" ∧ (zX1_isIn).1.cls ≠ "java/lang/invoke/VarHandle" ∧ (parseMethodDescriptor (zX1_isIn).1.desc).map (fun d => d.parameters.length) = some 2 := by decide +kernel
abbrev zX2_init : MI := (yX2_init, cX2_init, 1, none)
theorem cz_X2_init : wz zX2_init ∈ lw_g := lw_g_in (i := 371) (by decide +kernel) rfl
theorem iz_X2_init : Cond.instanceMethod yX2_init ∈ lw_g := lw_g_in (i := 370) (by decide +kernel) rfl
theorem dz_X2_init : (zX2_init).1.cls ≠ "java/lang/invoke/MethodHandle" ∧ (zX2_init).1.cls ≠ "java/lang/invoke/VarHandle" ∧ (parseMethodDescriptor (zX2_init).1.desc).map (fun d => d.parameters.length) = some 0 := by decide +kernel
abbrev zX2_hasHoliday : MI := (yX2_hasHoliday, cX2_hasHoliday, 2, (some .boolean))
theorem cz_X2_hasHoliday : wz zX2_hasHoliday ∈ lw_g := lw_g_in (i := 528) (by decide +kernel) rfl
theorem iz_X2_hasHoliday : Cond.instanceMethod yX2_hasHoliday ∈ lw_g := lw_g_in (i := 526) (by decide +kernel) rfl
theorem vz_X2_hasHoliday : Cond.selects RX2 yX2_hasHoliday yX2_hasHoliday ∈ lw_g := lw_g_in (i := 527) (by decide +kernel) rfl
theorem dz_X2_hasHoliday : (zX2_hasHoliday).1.cls ≠ "java/lang/invoke/MethodHandle" ∧ (zX2_hasHoliday).1.cls ≠ "java/lang/invoke/VarHandle" ∧ (parseMethodDescriptor (zX2_hasHoliday).1.desc).map (fun d => d.parameters.length) = some 1 := by decide +kernel
abbrev zX3_init : MI := (yX3_init, cX3_init, 1, none)
theorem cz_X3_init : wz zX3_init ∈ lw_g := lw_g_in (i := 134) (by decide +kernel) rfl
theorem iz_X3_init : Cond.instanceMethod yX3_init ∈ lw_g := lw_g_in (i := 133) (by decide +kernel) rfl
theorem dz_X3_init : (zX3_init).1.cls ≠ "java/lang/invoke/MethodHandle" ∧ (zX3_init).1.cls ≠ "java/lang/invoke/VarHandle" ∧ (parseMethodDescriptor (zX3_init).1.desc).map (fun d => d.parameters.length) = some 0 := by decide +kernel
abbrev zX3_clear : MI := (yX3_clear, cX3_clear, 2, none)
theorem cz_X3_clear : wz zX3_clear ∈ lw_g := lw_g_in (i := 280) (by decide +kernel) rfl
theorem iz_X3_clear : Cond.instanceMethod yX3_clear ∈ lw_g := lw_g_in (i := 278) (by decide +kernel) rfl
theorem vz_X3_clear : Cond.selects RX3 yX3_clear yX3_clear ∈ lw_g := lw_g_in (i := 279) (by decide +kernel) rfl
theorem dz_X3_clear : (zX3_clear).1.cls ≠ "java/lang/invoke/MethodHandle" ∧ (zX3_clear).1.cls ≠ "java/lang/invoke/VarHandle" ∧ (parseMethodDescriptor (zX3_clear).1.desc).map (fun d => d.parameters.length) = some 0 := by decide +kernel
abbrev zX3_add : MI := (yX3_add, cX3_add, 2, none)
theorem cz_X3_add : wz zX3_add ∈ lw_g := lw_g_in (i := 288) (by decide +kernel) rfl
theorem iz_X3_add : Cond.instanceMethod yX3_add ∈ lw_g := lw_g_in (i := 286) (by decide +kernel) rfl
theorem vz_X3_add : Cond.selects RX3 yX3_add yX3_add ∈ lw_g := lw_g_in (i := 287) (by decide +kernel) rfl
theorem dz_X3_add : (zX3_add).1.cls ≠ "java/lang/invoke/MethodHandle" ∧ (zX3_add).1.cls ≠ "java/lang/invoke/VarHandle" ∧ (parseMethodDescriptor (zX3_add).1.desc).map (fun d => d.parameters.length) = some 1 := by decide +kernel
abbrev zX3_total : MI := (yX3_total, cX3_total, 1, (some .int))
theorem cz_X3_total : wz zX3_total ∈ lw_g := lw_g_in (i := 299) (by decide +kernel) rfl
theorem iz_X3_total : Cond.instanceMethod yX3_total ∈ lw_g := lw_g_in (i := 297) (by decide +kernel) rfl
theorem vz_X3_total : Cond.selects RX3 yX3_total yX3_total ∈ lw_g := lw_g_in (i := 298) (by decide +kernel) rfl
theorem dz_X3_total : (zX3_total).1.cls ≠ "java/lang/invoke/MethodHandle" ∧ (zX3_total).1.cls ≠ "java/lang/invoke/VarHandle" ∧ (parseMethodDescriptor (zX3_total).1.desc).map (fun d => d.parameters.length) = some 0 := by decide +kernel
abbrev zX3_needAt : MI := (yX3_needAt, cX3_needAt, 6, (some .int))
theorem cz_X3_needAt : wz zX3_needAt ∈ lw_g := lw_g_in (i := 303) (by decide +kernel) rfl
theorem iz_X3_needAt : Cond.instanceMethod yX3_needAt ∈ lw_g := lw_g_in (i := 301) (by decide +kernel) rfl
theorem vz_X3_needAt : Cond.selects RX3 yX3_needAt yX3_needAt ∈ lw_g := lw_g_in (i := 302) (by decide +kernel) rfl
theorem dz_X3_needAt : (zX3_needAt).1.cls ≠ "java/lang/invoke/MethodHandle" ∧ (zX3_needAt).1.cls ≠ "java/lang/invoke/VarHandle" ∧ (parseMethodDescriptor (zX3_needAt).1.desc).map (fun d => d.parameters.length) = some 3 := by decide +kernel
abbrev zX4_init : MI := (yX4_init, cX4_init, 1, none)
theorem cz_X4_init : wz zX4_init ∈ lw_g := lw_g_in (i := 85) (by decide +kernel) rfl
theorem iz_X4_init : Cond.instanceMethod yX4_init ∈ lw_g := lw_g_in (i := 84) (by decide +kernel) rfl
theorem dz_X4_init : (zX4_init).1.cls ≠ "java/lang/invoke/MethodHandle" ∧ (zX4_init).1.cls ≠ "java/lang/invoke/VarHandle" ∧ (parseMethodDescriptor (zX4_init).1.desc).map (fun d => d.parameters.length) = some 0 := by decide +kernel
abbrev zX4_append : MI := (yX4_append, cX4_append, 2, (some .boolean))
theorem cz_X4_append : wz zX4_append ∈ lw_g := lw_g_in (i := 593) (by decide +kernel) rfl
theorem iz_X4_append : Cond.instanceMethod yX4_append ∈ lw_g := lw_g_in (i := 591) (by decide +kernel) rfl
theorem vz_X4_append : Cond.selects RX4 yX4_append yX4_append ∈ lw_g := lw_g_in (i := 592) (by decide +kernel) rfl
theorem dz_X4_append : (zX4_append).1.cls ≠ "java/lang/invoke/MethodHandle" ∧ (zX4_append).1.cls ≠ "java/lang/invoke/VarHandle" ∧ (parseMethodDescriptor (zX4_append).1.desc).map (fun d => d.parameters.length) = some 1 := by decide +kernel
abbrev zX4_read : MI := (yX4_read, cX4_read, 6, (some .int))
theorem cz_X4_read : wz zX4_read ∈ lw_g := lw_g_in (i := 605) (by decide +kernel) rfl
theorem iz_X4_read : Cond.instanceMethod yX4_read ∈ lw_g := lw_g_in (i := 603) (by decide +kernel) rfl
theorem vz_X4_read : Cond.selects RX4 yX4_read yX4_read ∈ lw_g := lw_g_in (i := 604) (by decide +kernel) rfl
theorem dz_X4_read : (zX4_read).1.cls ≠ "java/lang/invoke/MethodHandle" ∧ (zX4_read).1.cls ≠ "java/lang/invoke/VarHandle" ∧ (parseMethodDescriptor (zX4_read).1.desc).map (fun d => d.parameters.length) = some 0 := by decide +kernel
abbrev zX5_init : MI := (yX5_init, cX5_init, 4, none)
theorem cz_X5_init : wz zX5_init ∈ lw_g := lw_g_in (i := 492) (by decide +kernel) rfl
theorem iz_X5_init : Cond.instanceMethod yX5_init ∈ lw_g := lw_g_in (i := 491) (by decide +kernel) rfl
theorem dz_X5_init : (zX5_init).1.cls ≠ "java/lang/invoke/MethodHandle" ∧ (zX5_init).1.cls ≠ "java/lang/invoke/VarHandle" ∧ (parseMethodDescriptor (zX5_init).1.desc).map (fun d => d.parameters.length) = some 3 := by decide +kernel
abbrev zX5_canTake : MI := (yX5_canTake, cX5_canTake, 2, (some .boolean))
theorem cz_X5_canTake : wz zX5_canTake ∈ lw_g := lw_g_in (i := 569) (by decide +kernel) rfl
theorem iz_X5_canTake : Cond.instanceMethod yX5_canTake ∈ lw_g := lw_g_in (i := 567) (by decide +kernel) rfl
theorem vz_X5_canTake : Cond.selects RX5 yX5_canTake yX5_canTake ∈ lw_g := lw_g_in (i := 568) (by decide +kernel) rfl
theorem dz_X5_canTake : (zX5_canTake).1.cls ≠ "java/lang/invoke/MethodHandle" ∧ (zX5_canTake).1.cls ≠ "java/lang/invoke/VarHandle" ∧ (parseMethodDescriptor (zX5_canTake).1.desc).map (fun d => d.parameters.length) = some 1 := by decide +kernel
abbrev zX6_init : MI := (yX6_init, cX6_init, 1, none)
theorem cz_X6_init : wz zX6_init ∈ lw_g := lw_g_in (i := 73) (by decide +kernel) rfl
theorem iz_X6_init : Cond.instanceMethod yX6_init ∈ lw_g := lw_g_in (i := 72) (by decide +kernel) rfl
theorem dz_X6_init : (zX6_init).1.cls ≠ "java/lang/invoke/MethodHandle" ∧ (zX6_init).1.cls ≠ "java/lang/invoke/VarHandle" ∧ (parseMethodDescriptor (zX6_init).1.desc).map (fun d => d.parameters.length) = some 0 := by decide +kernel
abbrev zX6_addChild : MI := (yX6_addChild, cX6_addChild, 4, (some .int))
theorem cz_X6_addChild : wz zX6_addChild ∈ lw_g := lw_g_in (i := 180) (by decide +kernel) rfl
theorem iz_X6_addChild : Cond.instanceMethod yX6_addChild ∈ lw_g := lw_g_in (i := 178) (by decide +kernel) rfl
theorem vz_X6_addChild : Cond.selects RX6 yX6_addChild yX6_addChild ∈ lw_g := lw_g_in (i := 179) (by decide +kernel) rfl
theorem dz_X6_addChild : (zX6_addChild).1.cls ≠ "java/lang/invoke/MethodHandle" ∧ (zX6_addChild).1.cls ≠ "java/lang/invoke/VarHandle" ∧ (parseMethodDescriptor (zX6_addChild).1.desc).map (fun d => d.parameters.length) = some 2 := by decide +kernel
abbrev zX6_removeChild : MI := (yX6_removeChild, cX6_removeChild, 2, (some .int))
theorem cz_X6_removeChild : wz zX6_removeChild ∈ lw_g := lw_g_in (i := 210) (by decide +kernel) rfl
theorem iz_X6_removeChild : Cond.instanceMethod yX6_removeChild ∈ lw_g := lw_g_in (i := 208) (by decide +kernel) rfl
theorem vz_X6_removeChild : Cond.selects RX6 yX6_removeChild yX6_removeChild ∈ lw_g := lw_g_in (i := 209) (by decide +kernel) rfl
theorem dz_X6_removeChild : (zX6_removeChild).1.cls ≠ "java/lang/invoke/MethodHandle" ∧ (zX6_removeChild).1.cls ≠ "java/lang/invoke/VarHandle" ∧ (parseMethodDescriptor (zX6_removeChild).1.desc).map (fun d => d.parameters.length) = some 1 := by decide +kernel
abbrev zX6_children : MI := (yX6_children, cX6_children, 6, (some .int))
theorem cz_X6_children : wz zX6_children ∈ lw_g := lw_g_in (i := 218) (by decide +kernel) rfl
theorem iz_X6_children : Cond.instanceMethod yX6_children ∈ lw_g := lw_g_in (i := 216) (by decide +kernel) rfl
theorem vz_X6_children : Cond.selects RX6 yX6_children yX6_children ∈ lw_g := lw_g_in (i := 217) (by decide +kernel) rfl
theorem dz_X6_children : (zX6_children).1.cls ≠ "java/lang/invoke/MethodHandle" ∧ (zX6_children).1.cls ≠ "java/lang/invoke/VarHandle" ∧ (parseMethodDescriptor (zX6_children).1.desc).map (fun d => d.parameters.length) = some 0 := by decide +kernel
abbrev zX6_age : MI := (yX6_age, cX6_age, 3, (some .int))
theorem cz_X6_age : wz zX6_age ∈ lw_g := lw_g_in (i := 223) (by decide +kernel) rfl
theorem iz_X6_age : Cond.instanceMethod yX6_age ∈ lw_g := lw_g_in (i := 221) (by decide +kernel) rfl
theorem vz_X6_age : Cond.selects RX6 yX6_age yX6_age ∈ lw_g := lw_g_in (i := 222) (by decide +kernel) rfl
theorem dz_X6_age : (zX6_age).1.cls ≠ "java/lang/invoke/MethodHandle" ∧ (zX6_age).1.cls ≠ "java/lang/invoke/VarHandle" ∧ (parseMethodDescriptor (zX6_age).1.desc).map (fun d => d.parameters.length) = some 1 := by decide +kernel
abbrev zX6_isAdmitted : MI := (yX6_isAdmitted, cX6_isAdmitted, 3, (some .int))
theorem cz_X6_isAdmitted : wz zX6_isAdmitted ∈ lw_g := lw_g_in (i := 227) (by decide +kernel) rfl
theorem iz_X6_isAdmitted : Cond.instanceMethod yX6_isAdmitted ∈ lw_g := lw_g_in (i := 225) (by decide +kernel) rfl
theorem vz_X6_isAdmitted : Cond.selects RX6 yX6_isAdmitted yX6_isAdmitted ∈ lw_g := lw_g_in (i := 226) (by decide +kernel) rfl
theorem dz_X6_isAdmitted : (zX6_isAdmitted).1.cls ≠ "java/lang/invoke/MethodHandle" ∧ (zX6_isAdmitted).1.cls ≠ "java/lang/invoke/VarHandle" ∧ (parseMethodDescriptor (zX6_isAdmitted).1.desc).map (fun d => d.parameters.length) = some 1 := by decide +kernel
abbrev zX6_hours : MI := (yX6_hours, cX6_hours, 3, (some .int))
theorem cz_X6_hours : wz zX6_hours ∈ lw_g := lw_g_in (i := 231) (by decide +kernel) rfl
theorem iz_X6_hours : Cond.instanceMethod yX6_hours ∈ lw_g := lw_g_in (i := 229) (by decide +kernel) rfl
theorem vz_X6_hours : Cond.selects RX6 yX6_hours yX6_hours ∈ lw_g := lw_g_in (i := 230) (by decide +kernel) rfl
theorem dz_X6_hours : (zX6_hours).1.cls ≠ "java/lang/invoke/MethodHandle" ∧ (zX6_hours).1.cls ≠ "java/lang/invoke/VarHandle" ∧ (parseMethodDescriptor (zX6_hours).1.desc).map (fun d => d.parameters.length) = some 1 := by decide +kernel
abbrev zX6_book : MI := (yX6_book, cX6_book, 6, (some .int))
theorem cz_X6_book : wz zX6_book ∈ lw_g := lw_g_in (i := 245) (by decide +kernel) rfl
theorem iz_X6_book : Cond.instanceMethod yX6_book ∈ lw_g := lw_g_in (i := 243) (by decide +kernel) rfl
theorem vz_X6_book : Cond.selects RX6 yX6_book yX6_book ∈ lw_g := lw_g_in (i := 244) (by decide +kernel) rfl
theorem dz_X6_book : (zX6_book).1.cls ≠ "java/lang/invoke/MethodHandle" ∧ (zX6_book).1.cls ≠ "java/lang/invoke/VarHandle" ∧ (parseMethodDescriptor (zX6_book).1.desc).map (fun d => d.parameters.length) = some 4 := by decide +kernel
abbrev zX6_nextMonth : MI := (yX6_nextMonth, cX6_nextMonth, 3, (some .int))
theorem cz_X6_nextMonth : wz zX6_nextMonth ∈ lw_g := lw_g_in (i := 311) (by decide +kernel) rfl
theorem iz_X6_nextMonth : Cond.instanceMethod yX6_nextMonth ∈ lw_g := lw_g_in (i := 309) (by decide +kernel) rfl
theorem vz_X6_nextMonth : Cond.selects RX6 yX6_nextMonth yX6_nextMonth ∈ lw_g := lw_g_in (i := 310) (by decide +kernel) rfl
theorem dz_X6_nextMonth : (zX6_nextMonth).1.cls ≠ "java/lang/invoke/MethodHandle" ∧ (zX6_nextMonth).1.cls ≠ "java/lang/invoke/VarHandle" ∧ (parseMethodDescriptor (zX6_nextMonth).1.desc).map (fun d => d.parameters.length) = some 0 := by decide +kernel
abbrev zX6_childAt : MI := (yX6_childAt, cX6_childAt, 2, (some (.object "KindergartenPlanner$Child")))
theorem cz_X6_childAt : wz zX6_childAt ∈ lw_g := lw_g_in (i := 214) (by decide +kernel) rfl
theorem iz_X6_childAt : Cond.instanceMethod yX6_childAt ∈ lw_g := lw_g_in (i := 213) (by decide +kernel) rfl
theorem vz_X6_childAt : Cond.selects RX6 yX6_childAt yX6_childAt ∈ lw_g := lw_g_in (i := 0) (by decide +kernel) rfl
theorem dz_X6_childAt : (zX6_childAt).1.cls ≠ "java/lang/invoke/MethodHandle" ∧ (zX6_childAt).1.cls ≠ "java/lang/invoke/VarHandle" ∧ (parseMethodDescriptor (zX6_childAt).1.desc).map (fun d => d.parameters.length) = some 1 := by decide +kernel
abbrev zX6_rebook : MI := (yX6_rebook, cX6_rebook, 6, (some .int))
theorem cz_X6_rebook : wz zX6_rebook ∈ lw_g := lw_g_in (i := 265) (by decide +kernel) rfl
theorem iz_X6_rebook : Cond.instanceMethod yX6_rebook ∈ lw_g := lw_g_in (i := 264) (by decide +kernel) rfl
theorem vz_X6_rebook : Cond.selects RX6 yX6_rebook yX6_rebook ∈ lw_g := lw_g_in (i := 1) (by decide +kernel) rfl
theorem dz_X6_rebook : (zX6_rebook).1.cls ≠ "java/lang/invoke/MethodHandle" ∧ (zX6_rebook).1.cls ≠ "java/lang/invoke/VarHandle" ∧ (parseMethodDescriptor (zX6_rebook).1.desc).map (fun d => d.parameters.length) = some 2 := by decide +kernel
abbrev zX6_waited : MI := (yX6_waited, cX6_waited, 3, (some .int))
theorem cz_X6_waited : wz zX6_waited ∈ lw_g := lw_g_in (i := 319) (by decide +kernel) rfl
theorem iz_X6_waited : Cond.instanceMethod yX6_waited ∈ lw_g := lw_g_in (i := 317) (by decide +kernel) rfl
theorem vz_X6_waited : Cond.selects RX6 yX6_waited yX6_waited ∈ lw_g := lw_g_in (i := 318) (by decide +kernel) rfl
theorem dz_X6_waited : (zX6_waited).1.cls ≠ "java/lang/invoke/MethodHandle" ∧ (zX6_waited).1.cls ≠ "java/lang/invoke/VarHandle" ∧ (parseMethodDescriptor (zX6_waited).1.desc).map (fun d => d.parameters.length) = some 1 := by decide +kernel
abbrev zX6_points : MI := (yX6_points, cX6_points, 3, (some .int))
theorem cz_X6_points : wz zX6_points ∈ lw_g := lw_g_in (i := 323) (by decide +kernel) rfl
theorem iz_X6_points : Cond.instanceMethod yX6_points ∈ lw_g := lw_g_in (i := 321) (by decide +kernel) rfl
theorem vz_X6_points : Cond.selects RX6 yX6_points yX6_points ∈ lw_g := lw_g_in (i := 322) (by decide +kernel) rfl
theorem dz_X6_points : (zX6_points).1.cls ≠ "java/lang/invoke/MethodHandle" ∧ (zX6_points).1.cls ≠ "java/lang/invoke/VarHandle" ∧ (parseMethodDescriptor (zX6_points).1.desc).map (fun d => d.parameters.length) = some 1 := by decide +kernel
abbrev zX6_waiting : MI := (yX6_waiting, cX6_waiting, 4, (some .int))
theorem cz_X6_waiting : wz zX6_waiting ∈ lw_g := lw_g_in (i := 335) (by decide +kernel) rfl
theorem iz_X6_waiting : Cond.instanceMethod yX6_waiting ∈ lw_g := lw_g_in (i := 333) (by decide +kernel) rfl
theorem vz_X6_waiting : Cond.selects RX6 yX6_waiting yX6_waiting ∈ lw_g := lw_g_in (i := 334) (by decide +kernel) rfl
theorem dz_X6_waiting : (zX6_waiting).1.cls ≠ "java/lang/invoke/MethodHandle" ∧ (zX6_waiting).1.cls ≠ "java/lang/invoke/VarHandle" ∧ (parseMethodDescriptor (zX6_waiting).1.desc).map (fun d => d.parameters.length) = some 1 := by decide +kernel
abbrev zX6_admit : MI := (yX6_admit, cX6_admit, 4, (some .int))
theorem cz_X6_admit : wz zX6_admit ∈ lw_g := lw_g_in (i := 351) (by decide +kernel) rfl
theorem iz_X6_admit : Cond.instanceMethod yX6_admit ∈ lw_g := lw_g_in (i := 349) (by decide +kernel) rfl
theorem vz_X6_admit : Cond.selects RX6 yX6_admit yX6_admit ∈ lw_g := lw_g_in (i := 350) (by decide +kernel) rfl
theorem dz_X6_admit : (zX6_admit).1.cls ≠ "java/lang/invoke/MethodHandle" ∧ (zX6_admit).1.cls ≠ "java/lang/invoke/VarHandle" ∧ (parseMethodDescriptor (zX6_admit).1.desc).map (fun d => d.parameters.length) = some 0 := by decide +kernel
abbrev zX6_release : MI := (yX6_release, cX6_release, 3, (some .int))
theorem cz_X6_release : wz zX6_release ∈ lw_g := lw_g_in (i := 363) (by decide +kernel) rfl
theorem iz_X6_release : Cond.instanceMethod yX6_release ∈ lw_g := lw_g_in (i := 361) (by decide +kernel) rfl
theorem vz_X6_release : Cond.selects RX6 yX6_release yX6_release ∈ lw_g := lw_g_in (i := 362) (by decide +kernel) rfl
theorem dz_X6_release : (zX6_release).1.cls ≠ "java/lang/invoke/MethodHandle" ∧ (zX6_release).1.cls ≠ "java/lang/invoke/VarHandle" ∧ (parseMethodDescriptor (zX6_release).1.desc).map (fun d => d.parameters.length) = some 1 := by decide +kernel
abbrev zX6_pointsOf : MI := (yX6_pointsOf, cX6_pointsOf, 3, (some .int))
theorem cz_X6_pointsOf : wz zX6_pointsOf ∈ lw_g := lw_g_in (i := 327) (by decide +kernel) rfl
theorem iz_X6_pointsOf : Cond.instanceMethod yX6_pointsOf ∈ lw_g := lw_g_in (i := 326) (by decide +kernel) rfl
theorem vz_X6_pointsOf : Cond.selects RX6 yX6_pointsOf yX6_pointsOf ∈ lw_g := lw_g_in (i := 6) (by decide +kernel) rfl
theorem dz_X6_pointsOf : (zX6_pointsOf).1.cls ≠ "java/lang/invoke/MethodHandle" ∧ (zX6_pointsOf).1.cls ≠ "java/lang/invoke/VarHandle" ∧ (parseMethodDescriptor (zX6_pointsOf).1.desc).map (fun d => d.parameters.length) = some 1 := by decide +kernel
abbrev zX6_hasAdmittedChild : MI := (yX6_hasAdmittedChild, cX6_hasAdmittedChild, 6, (some .boolean))
theorem cz_X6_hasAdmittedChild : wz zX6_hasAdmittedChild ∈ lw_g := lw_g_in (i := 331) (by decide +kernel) rfl
theorem iz_X6_hasAdmittedChild : Cond.instanceMethod yX6_hasAdmittedChild ∈ lw_g := lw_g_in (i := 330) (by decide +kernel) rfl
theorem vz_X6_hasAdmittedChild : Cond.selects RX6 yX6_hasAdmittedChild yX6_hasAdmittedChild ∈ lw_g := lw_g_in (i := 7) (by decide +kernel) rfl
theorem dz_X6_hasAdmittedChild : (zX6_hasAdmittedChild).1.cls ≠ "java/lang/invoke/MethodHandle" ∧ (zX6_hasAdmittedChild).1.cls ≠ "java/lang/invoke/VarHandle" ∧ (parseMethodDescriptor (zX6_hasAdmittedChild).1.desc).map (fun d => d.parameters.length) = some 1 := by decide +kernel
abbrev zX6_notePriorities : MI := (yX6_notePriorities, cX6_notePriorities, 4, none)
theorem cz_X6_notePriorities : wz zX6_notePriorities ∈ lw_g := lw_g_in (i := 339) (by decide +kernel) rfl
theorem iz_X6_notePriorities : Cond.instanceMethod yX6_notePriorities ∈ lw_g := lw_g_in (i := 338) (by decide +kernel) rfl
theorem vz_X6_notePriorities : Cond.selects RX6 yX6_notePriorities yX6_notePriorities ∈ lw_g := lw_g_in (i := 8) (by decide +kernel) rfl
theorem dz_X6_notePriorities : (zX6_notePriorities).1.cls ≠ "java/lang/invoke/MethodHandle" ∧ (zX6_notePriorities).1.cls ≠ "java/lang/invoke/VarHandle" ∧ (parseMethodDescriptor (zX6_notePriorities).1.desc).map (fun d => d.parameters.length) = some 0 := by decide +kernel
abbrev zX6_priorityOf : MI := (yX6_priorityOf, cX6_priorityOf, 3, (some .int))
theorem cz_X6_priorityOf : wz zX6_priorityOf ∈ lw_g := lw_g_in (i := 343) (by decide +kernel) rfl
theorem iz_X6_priorityOf : Cond.instanceMethod yX6_priorityOf ∈ lw_g := lw_g_in (i := 342) (by decide +kernel) rfl
theorem vz_X6_priorityOf : Cond.selects RX6 yX6_priorityOf yX6_priorityOf ∈ lw_g := lw_g_in (i := 9) (by decide +kernel) rfl
theorem dz_X6_priorityOf : (zX6_priorityOf).1.cls ≠ "java/lang/invoke/MethodHandle" ∧ (zX6_priorityOf).1.cls ≠ "java/lang/invoke/VarHandle" ∧ (parseMethodDescriptor (zX6_priorityOf).1.desc).map (fun d => d.parameters.length) = some 2 := by decide +kernel
abbrev zX6_countAbove : MI := (yX6_countAbove, cX6_countAbove, 7, (some .int))
theorem cz_X6_countAbove : wz zX6_countAbove ∈ lw_g := lw_g_in (i := 347) (by decide +kernel) rfl
theorem iz_X6_countAbove : Cond.instanceMethod yX6_countAbove ∈ lw_g := lw_g_in (i := 346) (by decide +kernel) rfl
theorem vz_X6_countAbove : Cond.selects RX6 yX6_countAbove yX6_countAbove ∈ lw_g := lw_g_in (i := 10) (by decide +kernel) rfl
theorem dz_X6_countAbove : (zX6_countAbove).1.cls ≠ "java/lang/invoke/MethodHandle" ∧ (zX6_countAbove).1.cls ≠ "java/lang/invoke/VarHandle" ∧ (parseMethodDescriptor (zX6_countAbove).1.desc).map (fun d => d.parameters.length) = some 1 := by decide +kernel
abbrev zX6_firstThatCanBeAdmitted : MI := (yX6_firstThatCanBeAdmitted, cX6_firstThatCanBeAdmitted, 5, (some (.object "KindergartenPlanner$Child")))
theorem cz_X6_firstThatCanBeAdmitted : wz zX6_firstThatCanBeAdmitted ∈ lw_g := lw_g_in (i := 355) (by decide +kernel) rfl
theorem iz_X6_firstThatCanBeAdmitted : Cond.instanceMethod yX6_firstThatCanBeAdmitted ∈ lw_g := lw_g_in (i := 354) (by decide +kernel) rfl
theorem vz_X6_firstThatCanBeAdmitted : Cond.selects RX6 yX6_firstThatCanBeAdmitted yX6_firstThatCanBeAdmitted ∈ lw_g := lw_g_in (i := 11) (by decide +kernel) rfl
theorem dz_X6_firstThatCanBeAdmitted : (zX6_firstThatCanBeAdmitted).1.cls ≠ "java/lang/invoke/MethodHandle" ∧ (zX6_firstThatCanBeAdmitted).1.cls ≠ "java/lang/invoke/VarHandle" ∧ (parseMethodDescriptor (zX6_firstThatCanBeAdmitted).1.desc).map (fun d => d.parameters.length) = some 0 := by decide +kernel
abbrev zX6_canBeAdmitted : MI := (yX6_canBeAdmitted, cX6_canBeAdmitted, 2, (some .boolean))
theorem cz_X6_canBeAdmitted : wz zX6_canBeAdmitted ∈ lw_g := lw_g_in (i := 359) (by decide +kernel) rfl
theorem iz_X6_canBeAdmitted : Cond.instanceMethod yX6_canBeAdmitted ∈ lw_g := lw_g_in (i := 358) (by decide +kernel) rfl
theorem vz_X6_canBeAdmitted : Cond.selects RX6 yX6_canBeAdmitted yX6_canBeAdmitted ∈ lw_g := lw_g_in (i := 12) (by decide +kernel) rfl
theorem dz_X6_canBeAdmitted : (zX6_canBeAdmitted).1.cls ≠ "java/lang/invoke/MethodHandle" ∧ (zX6_canBeAdmitted).1.cls ≠ "java/lang/invoke/VarHandle" ∧ (parseMethodDescriptor (zX6_canBeAdmitted).1.desc).map (fun d => d.parameters.length) = some 1 := by decide +kernel
abbrev zX6_addEducator : MI := (yX6_addEducator, cX6_addEducator, 2, (some .int))
theorem cz_X6_addEducator : wz zX6_addEducator ∈ lw_g := lw_g_in (i := 367) (by decide +kernel) rfl
theorem iz_X6_addEducator : Cond.instanceMethod yX6_addEducator ∈ lw_g := lw_g_in (i := 365) (by decide +kernel) rfl
theorem vz_X6_addEducator : Cond.selects RX6 yX6_addEducator yX6_addEducator ∈ lw_g := lw_g_in (i := 366) (by decide +kernel) rfl
theorem dz_X6_addEducator : (zX6_addEducator).1.cls ≠ "java/lang/invoke/MethodHandle" ∧ (zX6_addEducator).1.cls ≠ "java/lang/invoke/VarHandle" ∧ (parseMethodDescriptor (zX6_addEducator).1.desc).map (fun d => d.parameters.length) = some 0 := by decide +kernel
abbrev zX6_removeEducator : MI := (yX6_removeEducator, cX6_removeEducator, 2, (some .int))
theorem cz_X6_removeEducator : wz zX6_removeEducator ∈ lw_g := lw_g_in (i := 384) (by decide +kernel) rfl
theorem iz_X6_removeEducator : Cond.instanceMethod yX6_removeEducator ∈ lw_g := lw_g_in (i := 382) (by decide +kernel) rfl
theorem vz_X6_removeEducator : Cond.selects RX6 yX6_removeEducator yX6_removeEducator ∈ lw_g := lw_g_in (i := 383) (by decide +kernel) rfl
theorem dz_X6_removeEducator : (zX6_removeEducator).1.cls ≠ "java/lang/invoke/MethodHandle" ∧ (zX6_removeEducator).1.cls ≠ "java/lang/invoke/VarHandle" ∧ (parseMethodDescriptor (zX6_removeEducator).1.desc).map (fun d => d.parameters.length) = some 1 := by decide +kernel
abbrev zX6_educators : MI := (yX6_educators, cX6_educators, 6, (some .int))
theorem cz_X6_educators : wz zX6_educators ∈ lw_g := lw_g_in (i := 392) (by decide +kernel) rfl
theorem iz_X6_educators : Cond.instanceMethod yX6_educators ∈ lw_g := lw_g_in (i := 390) (by decide +kernel) rfl
theorem vz_X6_educators : Cond.selects RX6 yX6_educators yX6_educators ∈ lw_g := lw_g_in (i := 391) (by decide +kernel) rfl
theorem dz_X6_educators : (zX6_educators).1.cls ≠ "java/lang/invoke/MethodHandle" ∧ (zX6_educators).1.cls ≠ "java/lang/invoke/VarHandle" ∧ (parseMethodDescriptor (zX6_educators).1.desc).map (fun d => d.parameters.length) = some 0 := by decide +kernel
abbrev zX6_work : MI := (yX6_work, cX6_work, 6, (some .int))
theorem cz_X6_work : wz zX6_work ∈ lw_g := lw_g_in (i := 397) (by decide +kernel) rfl
theorem iz_X6_work : Cond.instanceMethod yX6_work ∈ lw_g := lw_g_in (i := 395) (by decide +kernel) rfl
theorem vz_X6_work : Cond.selects RX6 yX6_work yX6_work ∈ lw_g := lw_g_in (i := 396) (by decide +kernel) rfl
theorem dz_X6_work : (zX6_work).1.cls ≠ "java/lang/invoke/MethodHandle" ∧ (zX6_work).1.cls ≠ "java/lang/invoke/VarHandle" ∧ (parseMethodDescriptor (zX6_work).1.desc).map (fun d => d.parameters.length) = some 4 := by decide +kernel
abbrev zX6_setHoliday : MI := (yX6_setHoliday, cX6_setHoliday, 7, (some .int))
theorem cz_X6_setHoliday : wz zX6_setHoliday ∈ lw_g := lw_g_in (i := 402) (by decide +kernel) rfl
theorem iz_X6_setHoliday : Cond.instanceMethod yX6_setHoliday ∈ lw_g := lw_g_in (i := 400) (by decide +kernel) rfl
theorem vz_X6_setHoliday : Cond.selects RX6 yX6_setHoliday yX6_setHoliday ∈ lw_g := lw_g_in (i := 401) (by decide +kernel) rfl
theorem dz_X6_setHoliday : (zX6_setHoliday).1.cls ≠ "java/lang/invoke/MethodHandle" ∧ (zX6_setHoliday).1.cls ≠ "java/lang/invoke/VarHandle" ∧ (parseMethodDescriptor (zX6_setHoliday).1.desc).map (fun d => d.parameters.length) = some 3 := by decide +kernel
abbrev zX6_setRatio : MI := (yX6_setRatio, cX6_setRatio, 4, (some .int))
theorem cz_X6_setRatio : wz zX6_setRatio ∈ lw_g := lw_g_in (i := 409) (by decide +kernel) rfl
theorem iz_X6_setRatio : Cond.instanceMethod yX6_setRatio ∈ lw_g := lw_g_in (i := 407) (by decide +kernel) rfl
theorem vz_X6_setRatio : Cond.selects RX6 yX6_setRatio yX6_setRatio ∈ lw_g := lw_g_in (i := 408) (by decide +kernel) rfl
theorem dz_X6_setRatio : (zX6_setRatio).1.cls ≠ "java/lang/invoke/MethodHandle" ∧ (zX6_setRatio).1.cls ≠ "java/lang/invoke/VarHandle" ∧ (parseMethodDescriptor (zX6_setRatio).1.desc).map (fun d => d.parameters.length) = some 2 := by decide +kernel
abbrev zX6_setRoomLimit : MI := (yX6_setRoomLimit, cX6_setRoomLimit, 3, (some .int))
theorem cz_X6_setRoomLimit : wz zX6_setRoomLimit ∈ lw_g := lw_g_in (i := 414) (by decide +kernel) rfl
theorem iz_X6_setRoomLimit : Cond.instanceMethod yX6_setRoomLimit ∈ lw_g := lw_g_in (i := 412) (by decide +kernel) rfl
theorem vz_X6_setRoomLimit : Cond.selects RX6 yX6_setRoomLimit yX6_setRoomLimit ∈ lw_g := lw_g_in (i := 413) (by decide +kernel) rfl
theorem dz_X6_setRoomLimit : (zX6_setRoomLimit).1.cls ≠ "java/lang/invoke/MethodHandle" ∧ (zX6_setRoomLimit).1.cls ≠ "java/lang/invoke/VarHandle" ∧ (parseMethodDescriptor (zX6_setRoomLimit).1.desc).map (fun d => d.parameters.length) = some 1 := by decide +kernel
abbrev zX6_educatorAt : MI := (yX6_educatorAt, cX6_educatorAt, 2, (some (.object "KindergartenPlanner$Educator")))
theorem cz_X6_educatorAt : wz zX6_educatorAt ∈ lw_g := lw_g_in (i := 388) (by decide +kernel) rfl
theorem iz_X6_educatorAt : Cond.instanceMethod yX6_educatorAt ∈ lw_g := lw_g_in (i := 387) (by decide +kernel) rfl
theorem vz_X6_educatorAt : Cond.selects RX6 yX6_educatorAt yX6_educatorAt ∈ lw_g := lw_g_in (i := 13) (by decide +kernel) rfl
theorem dz_X6_educatorAt : (zX6_educatorAt).1.cls ≠ "java/lang/invoke/MethodHandle" ∧ (zX6_educatorAt).1.cls ≠ "java/lang/invoke/VarHandle" ∧ (parseMethodDescriptor (zX6_educatorAt).1.desc).map (fun d => d.parameters.length) = some 1 := by decide +kernel
abbrev zX6_present : MI := (yX6_present, cX6_present, 3, (some .int))
theorem cz_X6_present : wz zX6_present ∈ lw_g := lw_g_in (i := 418) (by decide +kernel) rfl
theorem iz_X6_present : Cond.instanceMethod yX6_present ∈ lw_g := lw_g_in (i := 416) (by decide +kernel) rfl
theorem vz_X6_present : Cond.selects RX6 yX6_present yX6_present ∈ lw_g := lw_g_in (i := 417) (by decide +kernel) rfl
theorem dz_X6_present : (zX6_present).1.cls ≠ "java/lang/invoke/MethodHandle" ∧ (zX6_present).1.cls ≠ "java/lang/invoke/VarHandle" ∧ (parseMethodDescriptor (zX6_present).1.desc).map (fun d => d.parameters.length) = some 2 := by decide +kernel
abbrev zX6_need : MI := (yX6_need, cX6_need, 3, (some .int))
theorem cz_X6_need : wz zX6_need ∈ lw_g := lw_g_in (i := 425) (by decide +kernel) rfl
theorem iz_X6_need : Cond.instanceMethod yX6_need ∈ lw_g := lw_g_in (i := 423) (by decide +kernel) rfl
theorem vz_X6_need : Cond.selects RX6 yX6_need yX6_need ∈ lw_g := lw_g_in (i := 424) (by decide +kernel) rfl
theorem dz_X6_need : (zX6_need).1.cls ≠ "java/lang/invoke/MethodHandle" ∧ (zX6_need).1.cls ≠ "java/lang/invoke/VarHandle" ∧ (parseMethodDescriptor (zX6_need).1.desc).map (fun d => d.parameters.length) = some 2 := by decide +kernel
abbrev zX6_staff : MI := (yX6_staff, cX6_staff, 3, (some .int))
theorem cz_X6_staff : wz zX6_staff ∈ lw_g := lw_g_in (i := 433) (by decide +kernel) rfl
theorem iz_X6_staff : Cond.instanceMethod yX6_staff ∈ lw_g := lw_g_in (i := 431) (by decide +kernel) rfl
theorem vz_X6_staff : Cond.selects RX6 yX6_staff yX6_staff ∈ lw_g := lw_g_in (i := 432) (by decide +kernel) rfl
theorem dz_X6_staff : (zX6_staff).1.cls ≠ "java/lang/invoke/MethodHandle" ∧ (zX6_staff).1.cls ≠ "java/lang/invoke/VarHandle" ∧ (parseMethodDescriptor (zX6_staff).1.desc).map (fun d => d.parameters.length) = some 2 := by decide +kernel
abbrev zX6_unsafeHours : MI := (yX6_unsafeHours, cX6_unsafeHours, 3, (some .int))
theorem cz_X6_unsafeHours : wz zX6_unsafeHours ∈ lw_g := lw_g_in (i := 437) (by decide +kernel) rfl
theorem iz_X6_unsafeHours : Cond.instanceMethod yX6_unsafeHours ∈ lw_g := lw_g_in (i := 435) (by decide +kernel) rfl
theorem vz_X6_unsafeHours : Cond.selects RX6 yX6_unsafeHours yX6_unsafeHours ∈ lw_g := lw_g_in (i := 436) (by decide +kernel) rfl
theorem dz_X6_unsafeHours : (zX6_unsafeHours).1.cls ≠ "java/lang/invoke/MethodHandle" ∧ (zX6_unsafeHours).1.cls ≠ "java/lang/invoke/VarHandle" ∧ (parseMethodDescriptor (zX6_unsafeHours).1.desc).map (fun d => d.parameters.length) = some 0 := by decide +kernel
abbrev zX6_load : MI := (yX6_load, cX6_load, 5, (some .double))
theorem cz_X6_load : wz zX6_load ∈ lw_g := lw_g_in (i := 441) (by decide +kernel) rfl
theorem iz_X6_load : Cond.instanceMethod yX6_load ∈ lw_g := lw_g_in (i := 439) (by decide +kernel) rfl
theorem vz_X6_load : Cond.selects RX6 yX6_load yX6_load ∈ lw_g := lw_g_in (i := 440) (by decide +kernel) rfl
theorem dz_X6_load : (zX6_load).1.cls ≠ "java/lang/invoke/MethodHandle" ∧ (zX6_load).1.cls ≠ "java/lang/invoke/VarHandle" ∧ (parseMethodDescriptor (zX6_load).1.desc).map (fun d => d.parameters.length) = some 1 := by decide +kernel
abbrev zX6_countHeads : MI := (yX6_countHeads, cX6_countHeads, 6, none)
theorem cz_X6_countHeads : wz zX6_countHeads ∈ lw_g := lw_g_in (i := 276) (by decide +kernel) rfl
theorem iz_X6_countHeads : Cond.instanceMethod yX6_countHeads ∈ lw_g := lw_g_in (i := 275) (by decide +kernel) rfl
theorem vz_X6_countHeads : Cond.selects RX6 yX6_countHeads yX6_countHeads ∈ lw_g := lw_g_in (i := 3) (by decide +kernel) rfl
theorem dz_X6_countHeads : (zX6_countHeads).1.cls ≠ "java/lang/invoke/MethodHandle" ∧ (zX6_countHeads).1.cls ≠ "java/lang/invoke/VarHandle" ∧ (parseMethodDescriptor (zX6_countHeads).1.desc).map (fun d => d.parameters.length) = some 1 := by decide +kernel
abbrev zX6_needIn : MI := (yX6_needIn, cX6_needIn, 2, (some .int))
theorem cz_X6_needIn : wz zX6_needIn ∈ lw_g := lw_g_in (i := 429) (by decide +kernel) rfl
theorem iz_X6_needIn : Cond.instanceMethod yX6_needIn ∈ lw_g := lw_g_in (i := 428) (by decide +kernel) rfl
theorem vz_X6_needIn : Cond.selects RX6 yX6_needIn yX6_needIn ∈ lw_g := lw_g_in (i := 14) (by decide +kernel) rfl
theorem dz_X6_needIn : (zX6_needIn).1.cls ≠ "java/lang/invoke/MethodHandle" ∧ (zX6_needIn).1.cls ≠ "java/lang/invoke/VarHandle" ∧ (parseMethodDescriptor (zX6_needIn).1.desc).map (fun d => d.parameters.length) = some 1 := by decide +kernel
abbrev zX6_staffIn : MI := (yX6_staffIn, cX6_staffIn, 7, (some .int))
theorem cz_X6_staffIn : wz zX6_staffIn ∈ lw_g := lw_g_in (i := 307) (by decide +kernel) rfl
theorem iz_X6_staffIn : Cond.instanceMethod yX6_staffIn ∈ lw_g := lw_g_in (i := 306) (by decide +kernel) rfl
theorem vz_X6_staffIn : Cond.selects RX6 yX6_staffIn yX6_staffIn ∈ lw_g := lw_g_in (i := 5) (by decide +kernel) rfl
theorem dz_X6_staffIn : (zX6_staffIn).1.cls ≠ "java/lang/invoke/MethodHandle" ∧ (zX6_staffIn).1.cls ≠ "java/lang/invoke/VarHandle" ∧ (parseMethodDescriptor (zX6_staffIn).1.desc).map (fun d => d.parameters.length) = some 1 := by decide +kernel
abbrev zX6_areHeadsSafe : MI := (yX6_areHeadsSafe, cX6_areHeadsSafe, 2, (some .boolean))
theorem cz_X6_areHeadsSafe : wz zX6_areHeadsSafe ∈ lw_g := lw_g_in (i := 295) (by decide +kernel) rfl
theorem iz_X6_areHeadsSafe : Cond.instanceMethod yX6_areHeadsSafe ∈ lw_g := lw_g_in (i := 294) (by decide +kernel) rfl
theorem vz_X6_areHeadsSafe : Cond.selects RX6 yX6_areHeadsSafe yX6_areHeadsSafe ∈ lw_g := lw_g_in (i := 4) (by decide +kernel) rfl
theorem dz_X6_areHeadsSafe : (zX6_areHeadsSafe).1.cls ≠ "java/lang/invoke/MethodHandle" ∧ (zX6_areHeadsSafe).1.cls ≠ "java/lang/invoke/VarHandle" ∧ (parseMethodDescriptor (zX6_areHeadsSafe).1.desc).map (fun d => d.parameters.length) = some 1 := by decide +kernel
abbrev zX6_areSafeWith : MI := (yX6_areSafeWith, cX6_areSafeWith, 5, (some .boolean))
theorem cz_X6_areSafeWith : wz zX6_areSafeWith ∈ lw_g := lw_g_in (i := 269) (by decide +kernel) rfl
theorem iz_X6_areSafeWith : Cond.instanceMethod yX6_areSafeWith ∈ lw_g := lw_g_in (i := 268) (by decide +kernel) rfl
theorem vz_X6_areSafeWith : Cond.selects RX6 yX6_areSafeWith yX6_areSafeWith ∈ lw_g := lw_g_in (i := 2) (by decide +kernel) rfl
theorem dz_X6_areSafeWith : (zX6_areSafeWith).1.cls ≠ "java/lang/invoke/MethodHandle" ∧ (zX6_areSafeWith).1.cls ≠ "java/lang/invoke/VarHandle" ∧ (parseMethodDescriptor (zX6_areSafeWith).1.desc).map (fun d => d.parameters.length) = some 2 := by decide +kernel
abbrev zX6_setRate : MI := (yX6_setRate, cX6_setRate, 4, (some .int))
theorem cz_X6_setRate : wz zX6_setRate ∈ lw_g := lw_g_in (i := 448) (by decide +kernel) rfl
theorem iz_X6_setRate : Cond.instanceMethod yX6_setRate ∈ lw_g := lw_g_in (i := 446) (by decide +kernel) rfl
theorem vz_X6_setRate : Cond.selects RX6 yX6_setRate yX6_setRate ∈ lw_g := lw_g_in (i := 447) (by decide +kernel) rfl
theorem dz_X6_setRate : (zX6_setRate).1.cls ≠ "java/lang/invoke/MethodHandle" ∧ (zX6_setRate).1.cls ≠ "java/lang/invoke/VarHandle" ∧ (parseMethodDescriptor (zX6_setRate).1.desc).map (fun d => d.parameters.length) = some 2 := by decide +kernel
abbrev zX6_fee : MI := (yX6_fee, cX6_fee, 3, (some .int))
theorem cz_X6_fee : wz zX6_fee ∈ lw_g := lw_g_in (i := 452) (by decide +kernel) rfl
theorem iz_X6_fee : Cond.instanceMethod yX6_fee ∈ lw_g := lw_g_in (i := 450) (by decide +kernel) rfl
theorem vz_X6_fee : Cond.selects RX6 yX6_fee yX6_fee ∈ lw_g := lw_g_in (i := 451) (by decide +kernel) rfl
theorem dz_X6_fee : (zX6_fee).1.cls ≠ "java/lang/invoke/MethodHandle" ∧ (zX6_fee).1.cls ≠ "java/lang/invoke/VarHandle" ∧ (parseMethodDescriptor (zX6_fee).1.desc).map (fun d => d.parameters.length) = some 1 := by decide +kernel
abbrev zX6_income : MI := (yX6_income, cX6_income, 3, (some .int))
theorem cz_X6_income : wz zX6_income ∈ lw_g := lw_g_in (i := 472) (by decide +kernel) rfl
theorem iz_X6_income : Cond.instanceMethod yX6_income ∈ lw_g := lw_g_in (i := 470) (by decide +kernel) rfl
theorem vz_X6_income : Cond.selects RX6 yX6_income yX6_income ∈ lw_g := lw_g_in (i := 471) (by decide +kernel) rfl
theorem dz_X6_income : (zX6_income).1.cls ≠ "java/lang/invoke/MethodHandle" ∧ (zX6_income).1.cls ≠ "java/lang/invoke/VarHandle" ∧ (parseMethodDescriptor (zX6_income).1.desc).map (fun d => d.parameters.length) = some 0 := by decide +kernel
abbrev zX6_familyFeeIfAdmitted : MI := (yX6_familyFeeIfAdmitted, cX6_familyFeeIfAdmitted, 3, (some .int))
theorem cz_X6_familyFeeIfAdmitted : wz zX6_familyFeeIfAdmitted ∈ lw_g := lw_g_in (i := 480) (by decide +kernel) rfl
theorem iz_X6_familyFeeIfAdmitted : Cond.instanceMethod yX6_familyFeeIfAdmitted ∈ lw_g := lw_g_in (i := 478) (by decide +kernel) rfl
theorem vz_X6_familyFeeIfAdmitted : Cond.selects RX6 yX6_familyFeeIfAdmitted yX6_familyFeeIfAdmitted ∈ lw_g := lw_g_in (i := 479) (by decide +kernel) rfl
theorem dz_X6_familyFeeIfAdmitted : (zX6_familyFeeIfAdmitted).1.cls ≠ "java/lang/invoke/MethodHandle" ∧ (zX6_familyFeeIfAdmitted).1.cls ≠ "java/lang/invoke/VarHandle" ∧ (parseMethodDescriptor (zX6_familyFeeIfAdmitted).1.desc).map (fun d => d.parameters.length) = some 1 := by decide +kernel
abbrev zX6_familyFee : MI := (yX6_familyFee, cX6_familyFee, 6, (some .int))
theorem cz_X6_familyFee : wz zX6_familyFee ∈ lw_g := lw_g_in (i := 476) (by decide +kernel) rfl
theorem iz_X6_familyFee : Cond.instanceMethod yX6_familyFee ∈ lw_g := lw_g_in (i := 475) (by decide +kernel) rfl
theorem vz_X6_familyFee : Cond.selects RX6 yX6_familyFee yX6_familyFee ∈ lw_g := lw_g_in (i := 19) (by decide +kernel) rfl
theorem dz_X6_familyFee : (zX6_familyFee).1.cls ≠ "java/lang/invoke/MethodHandle" ∧ (zX6_familyFee).1.cls ≠ "java/lang/invoke/VarHandle" ∧ (parseMethodDescriptor (zX6_familyFee).1.desc).map (fun d => d.parameters.length) = some 2 := by decide +kernel
abbrev zX6_pays : MI := (yX6_pays, cX6_pays, 4, (some .boolean))
theorem cz_X6_pays : wz zX6_pays ∈ lw_g := lw_g_in (i := 468) (by decide +kernel) rfl
theorem iz_X6_pays : Cond.instanceMethod yX6_pays ∈ lw_g := lw_g_in (i := 467) (by decide +kernel) rfl
theorem vz_X6_pays : Cond.selects RX6 yX6_pays yX6_pays ∈ lw_g := lw_g_in (i := 18) (by decide +kernel) rfl
theorem dz_X6_pays : (zX6_pays).1.cls ≠ "java/lang/invoke/MethodHandle" ∧ (zX6_pays).1.cls ≠ "java/lang/invoke/VarHandle" ∧ (parseMethodDescriptor (zX6_pays).1.desc).map (fun d => d.parameters.length) = some 3 := by decide +kernel
abbrev zX6_feeOf : MI := (yX6_feeOf, cX6_feeOf, 5, (some .int))
theorem cz_X6_feeOf : wz zX6_feeOf ∈ lw_g := lw_g_in (i := 456) (by decide +kernel) rfl
theorem iz_X6_feeOf : Cond.instanceMethod yX6_feeOf ∈ lw_g := lw_g_in (i := 455) (by decide +kernel) rfl
theorem vz_X6_feeOf : Cond.selects RX6 yX6_feeOf yX6_feeOf ∈ lw_g := lw_g_in (i := 15) (by decide +kernel) rfl
theorem dz_X6_feeOf : (zX6_feeOf).1.cls ≠ "java/lang/invoke/MethodHandle" ∧ (zX6_feeOf).1.cls ≠ "java/lang/invoke/VarHandle" ∧ (parseMethodDescriptor (zX6_feeOf).1.desc).map (fun d => d.parameters.length) = some 3 := by decide +kernel
abbrev zX6_percentageOf : MI := (yX6_percentageOf, cX6_percentageOf, 4, (some .int))
theorem cz_X6_percentageOf : wz zX6_percentageOf ∈ lw_g := lw_g_in (i := 460) (by decide +kernel) rfl
theorem iz_X6_percentageOf : Cond.instanceMethod yX6_percentageOf ∈ lw_g := lw_g_in (i := 459) (by decide +kernel) rfl
theorem vz_X6_percentageOf : Cond.selects RX6 yX6_percentageOf yX6_percentageOf ∈ lw_g := lw_g_in (i := 16) (by decide +kernel) rfl
theorem dz_X6_percentageOf : (zX6_percentageOf).1.cls ≠ "java/lang/invoke/MethodHandle" ∧ (zX6_percentageOf).1.cls ≠ "java/lang/invoke/VarHandle" ∧ (parseMethodDescriptor (zX6_percentageOf).1.desc).map (fun d => d.parameters.length) = some 3 := by decide +kernel
abbrev zX6_rankOf : MI := (yX6_rankOf, cX6_rankOf, 8, (some .int))
theorem cz_X6_rankOf : wz zX6_rankOf ∈ lw_g := lw_g_in (i := 464) (by decide +kernel) rfl
theorem iz_X6_rankOf : Cond.instanceMethod yX6_rankOf ∈ lw_g := lw_g_in (i := 463) (by decide +kernel) rfl
theorem vz_X6_rankOf : Cond.selects RX6 yX6_rankOf yX6_rankOf ∈ lw_g := lw_g_in (i := 17) (by decide +kernel) rfl
theorem dz_X6_rankOf : (zX6_rankOf).1.cls ≠ "java/lang/invoke/MethodHandle" ∧ (zX6_rankOf).1.cls ≠ "java/lang/invoke/VarHandle" ∧ (parseMethodDescriptor (zX6_rankOf).1.desc).map (fun d => d.parameters.length) = some 3 := by decide +kernel
abbrev zX6_addSubstitute : MI := (yX6_addSubstitute, cX6_addSubstitute, 4, (some .int))
theorem cz_X6_addSubstitute : wz zX6_addSubstitute ∈ lw_g := lw_g_in (i := 484) (by decide +kernel) rfl
theorem iz_X6_addSubstitute : Cond.instanceMethod yX6_addSubstitute ∈ lw_g := lw_g_in (i := 482) (by decide +kernel) rfl
theorem vz_X6_addSubstitute : Cond.selects RX6 yX6_addSubstitute yX6_addSubstitute ∈ lw_g := lw_g_in (i := 483) (by decide +kernel) rfl
theorem dz_X6_addSubstitute : (zX6_addSubstitute).1.cls ≠ "java/lang/invoke/MethodHandle" ∧ (zX6_addSubstitute).1.cls ≠ "java/lang/invoke/VarHandle" ∧ (parseMethodDescriptor (zX6_addSubstitute).1.desc).map (fun d => d.parameters.length) = some 3 := by decide +kernel
abbrev zX6_shortage : MI := (yX6_shortage, cX6_shortage, 3, (some .int))
theorem cz_X6_shortage : wz zX6_shortage ∈ lw_g := lw_g_in (i := 512) (by decide +kernel) rfl
theorem iz_X6_shortage : Cond.instanceMethod yX6_shortage ∈ lw_g := lw_g_in (i := 510) (by decide +kernel) rfl
theorem vz_X6_shortage : Cond.selects RX6 yX6_shortage yX6_shortage ∈ lw_g := lw_g_in (i := 511) (by decide +kernel) rfl
theorem dz_X6_shortage : (zX6_shortage).1.cls ≠ "java/lang/invoke/MethodHandle" ∧ (zX6_shortage).1.cls ≠ "java/lang/invoke/VarHandle" ∧ (parseMethodDescriptor (zX6_shortage).1.desc).map (fun d => d.parameters.length) = some 2 := by decide +kernel
abbrev zX6_cover : MI := (yX6_cover, cX6_cover, 4, (some .int))
theorem cz_X6_cover : wz zX6_cover ∈ lw_g := lw_g_in (i := 535) (by decide +kernel) rfl
theorem iz_X6_cover : Cond.instanceMethod yX6_cover ∈ lw_g := lw_g_in (i := 533) (by decide +kernel) rfl
theorem vz_X6_cover : Cond.selects RX6 yX6_cover yX6_cover ∈ lw_g := lw_g_in (i := 534) (by decide +kernel) rfl
theorem dz_X6_cover : (zX6_cover).1.cls ≠ "java/lang/invoke/MethodHandle" ∧ (zX6_cover).1.cls ≠ "java/lang/invoke/VarHandle" ∧ (parseMethodDescriptor (zX6_cover).1.desc).map (fun d => d.parameters.length) = some 1 := by decide +kernel
abbrev zX6_coverOf : MI := (yX6_coverOf, cX6_coverOf, 2, (some .int))
theorem cz_X6_coverOf : wz zX6_coverOf ∈ lw_g := lw_g_in (i := 581) (by decide +kernel) rfl
theorem iz_X6_coverOf : Cond.instanceMethod yX6_coverOf ∈ lw_g := lw_g_in (i := 579) (by decide +kernel) rfl
theorem vz_X6_coverOf : Cond.selects RX6 yX6_coverOf yX6_coverOf ∈ lw_g := lw_g_in (i := 580) (by decide +kernel) rfl
theorem dz_X6_coverOf : (zX6_coverOf).1.cls ≠ "java/lang/invoke/MethodHandle" ∧ (zX6_coverOf).1.cls ≠ "java/lang/invoke/VarHandle" ∧ (parseMethodDescriptor (zX6_coverOf).1.desc).map (fun d => d.parameters.length) = some 1 := by decide +kernel
abbrev zX6_cheapestHoliday : MI := (yX6_cheapestHoliday, cX6_cheapestHoliday, 7, (some .int))
theorem cz_X6_cheapestHoliday : wz zX6_cheapestHoliday ∈ lw_g := lw_g_in (i := 585) (by decide +kernel) rfl
theorem iz_X6_cheapestHoliday : Cond.instanceMethod yX6_cheapestHoliday ∈ lw_g := lw_g_in (i := 583) (by decide +kernel) rfl
theorem vz_X6_cheapestHoliday : Cond.selects RX6 yX6_cheapestHoliday yX6_cheapestHoliday ∈ lw_g := lw_g_in (i := 584) (by decide +kernel) rfl
theorem dz_X6_cheapestHoliday : (zX6_cheapestHoliday).1.cls ≠ "java/lang/invoke/MethodHandle" ∧ (zX6_cheapestHoliday).1.cls ≠ "java/lang/invoke/VarHandle" ∧ (parseMethodDescriptor (zX6_cheapestHoliday).1.desc).map (fun d => d.parameters.length) = some 1 := by decide +kernel
abbrev zX6_noteNeeds : MI := (yX6_noteNeeds, cX6_noteNeeds, 2, none)
theorem cz_X6_noteNeeds : wz zX6_noteNeeds ∈ lw_g := lw_g_in (i := 516) (by decide +kernel) rfl
theorem iz_X6_noteNeeds : Cond.instanceMethod yX6_noteNeeds ∈ lw_g := lw_g_in (i := 515) (by decide +kernel) rfl
theorem vz_X6_noteNeeds : Cond.selects RX6 yX6_noteNeeds yX6_noteNeeds ∈ lw_g := lw_g_in (i := 20) (by decide +kernel) rfl
theorem dz_X6_noteNeeds : (zX6_noteNeeds).1.cls ≠ "java/lang/invoke/MethodHandle" ∧ (zX6_noteNeeds).1.cls ≠ "java/lang/invoke/VarHandle" ∧ (parseMethodDescriptor (zX6_noteNeeds).1.desc).map (fun d => d.parameters.length) = some 0 := by decide +kernel
abbrev zX6_shortageOf : MI := (yX6_shortageOf, cX6_shortageOf, 7, (some .int))
theorem cz_X6_shortageOf : wz zX6_shortageOf ∈ lw_g := lw_g_in (i := 520) (by decide +kernel) rfl
theorem iz_X6_shortageOf : Cond.instanceMethod yX6_shortageOf ∈ lw_g := lw_g_in (i := 519) (by decide +kernel) rfl
theorem vz_X6_shortageOf : Cond.selects RX6 yX6_shortageOf yX6_shortageOf ∈ lw_g := lw_g_in (i := 21) (by decide +kernel) rfl
theorem dz_X6_shortageOf : (zX6_shortageOf).1.cls ≠ "java/lang/invoke/MethodHandle" ∧ (zX6_shortageOf).1.cls ≠ "java/lang/invoke/VarHandle" ∧ (parseMethodDescriptor (zX6_shortageOf).1.desc).map (fun d => d.parameters.length) = some 3 := by decide +kernel
abbrev zX6_staffLeft : MI := (yX6_staffLeft, cX6_staffLeft, 7, (some .int))
theorem cz_X6_staffLeft : wz zX6_staffLeft ∈ lw_g := lw_g_in (i := 524) (by decide +kernel) rfl
theorem iz_X6_staffLeft : Cond.instanceMethod yX6_staffLeft ∈ lw_g := lw_g_in (i := 523) (by decide +kernel) rfl
theorem vz_X6_staffLeft : Cond.selects RX6 yX6_staffLeft yX6_staffLeft ∈ lw_g := lw_g_in (i := 22) (by decide +kernel) rfl
theorem dz_X6_staffLeft : (zX6_staffLeft).1.cls ≠ "java/lang/invoke/MethodHandle" ∧ (zX6_staffLeft).1.cls ≠ "java/lang/invoke/VarHandle" ∧ (parseMethodDescriptor (zX6_staffLeft).1.desc).map (fun d => d.parameters.length) = some 3 := by decide +kernel
abbrev zX6_leastCostBelow : MI := (yX6_leastCostBelow, cX6_leastCostBelow, 5, (some .int))
theorem cz_X6_leastCostBelow : wz zX6_leastCostBelow ∈ lw_g := lw_g_in (i := 540) (by decide +kernel) rfl
theorem iz_X6_leastCostBelow : Cond.instanceMethod yX6_leastCostBelow ∈ lw_g := lw_g_in (i := 539) (by decide +kernel) rfl
theorem vz_X6_leastCostBelow : Cond.selects RX6 yX6_leastCostBelow yX6_leastCostBelow ∈ lw_g := lw_g_in (i := 23) (by decide +kernel) rfl
theorem dz_X6_leastCostBelow : (zX6_leastCostBelow).1.cls ≠ "java/lang/invoke/MethodHandle" ∧ (zX6_leastCostBelow).1.cls ≠ "java/lang/invoke/VarHandle" ∧ (parseMethodDescriptor (zX6_leastCostBelow).1.desc).map (fun d => d.parameters.length) = some 3 := by decide +kernel
abbrev zX6_type : MI := (yX6_type, cX6_type, 2, (some .int))
theorem cz_X6_type : wz zX6_type ∈ lw_g := lw_g_in (i := 589) (by decide +kernel) rfl
theorem iz_X6_type : Cond.instanceMethod yX6_type ∈ lw_g := lw_g_in (i := 587) (by decide +kernel) rfl
theorem vz_X6_type : Cond.selects RX6 yX6_type yX6_type ∈ lw_g := lw_g_in (i := 588) (by decide +kernel) rfl
theorem dz_X6_type : (zX6_type).1.cls ≠ "java/lang/invoke/MethodHandle" ∧ (zX6_type).1.cls ≠ "java/lang/invoke/VarHandle" ∧ (parseMethodDescriptor (zX6_type).1.desc).map (fun d => d.parameters.length) = some 1 := by decide +kernel
abbrev zX6_clearText : MI := (yX6_clearText, cX6_clearText, 2, (some .int))
theorem cz_X6_clearText : wz zX6_clearText ∈ lw_g := lw_g_in (i := 597) (by decide +kernel) rfl
theorem iz_X6_clearText : Cond.instanceMethod yX6_clearText ∈ lw_g := lw_g_in (i := 595) (by decide +kernel) rfl
theorem vz_X6_clearText : Cond.selects RX6 yX6_clearText yX6_clearText ∈ lw_g := lw_g_in (i := 596) (by decide +kernel) rfl
theorem dz_X6_clearText : (zX6_clearText).1.cls ≠ "java/lang/invoke/MethodHandle" ∧ (zX6_clearText).1.cls ≠ "java/lang/invoke/VarHandle" ∧ (parseMethodDescriptor (zX6_clearText).1.desc).map (fun d => d.parameters.length) = some 0 := by decide +kernel
abbrev zX6_loadBookings : MI := (yX6_loadBookings, cX6_loadBookings, 4, (some .int))
theorem cz_X6_loadBookings : wz zX6_loadBookings ∈ lw_g := lw_g_in (i := 601) (by decide +kernel) rfl
theorem iz_X6_loadBookings : Cond.instanceMethod yX6_loadBookings ∈ lw_g := lw_g_in (i := 599) (by decide +kernel) rfl
theorem vz_X6_loadBookings : Cond.selects RX6 yX6_loadBookings yX6_loadBookings ∈ lw_g := lw_g_in (i := 600) (by decide +kernel) rfl
theorem dz_X6_loadBookings : (zX6_loadBookings).1.cls ≠ "java/lang/invoke/MethodHandle" ∧ (zX6_loadBookings).1.cls ≠ "java/lang/invoke/VarHandle" ∧ (parseMethodDescriptor (zX6_loadBookings).1.desc).map (fun d => d.parameters.length) = some 1 := by decide +kernel
abbrev zX6_digest : MI := (yX6_digest, cX6_digest, 4, (some .long))
theorem cz_X6_digest : wz zX6_digest ∈ lw_g := lw_g_in (i := 610) (by decide +kernel) rfl
theorem iz_X6_digest : Cond.instanceMethod yX6_digest ∈ lw_g := lw_g_in (i := 608) (by decide +kernel) rfl
theorem vz_X6_digest : Cond.selects RX6 yX6_digest yX6_digest ∈ lw_g := lw_g_in (i := 609) (by decide +kernel) rfl
theorem dz_X6_digest : (zX6_digest).1.cls ≠ "java/lang/invoke/MethodHandle" ∧ (zX6_digest).1.cls ≠ "java/lang/invoke/VarHandle" ∧ (parseMethodDescriptor (zX6_digest).1.desc).map (fun d => d.parameters.length) = some 0 := by decide +kernel
abbrev zX6_mixChildren : MI := (yX6_mixChildren, cX6_mixChildren, 7, (some .long))
theorem cz_X6_mixChildren : wz zX6_mixChildren ∈ lw_g := lw_g_in (i := 619) (by decide +kernel) rfl
theorem iz_X6_mixChildren : Cond.instanceMethod yX6_mixChildren ∈ lw_g := lw_g_in (i := 618) (by decide +kernel) rfl
theorem vz_X6_mixChildren : Cond.selects RX6 yX6_mixChildren yX6_mixChildren ∈ lw_g := lw_g_in (i := 28) (by decide +kernel) rfl
theorem dz_X6_mixChildren : (zX6_mixChildren).1.cls ≠ "java/lang/invoke/MethodHandle" ∧ (zX6_mixChildren).1.cls ≠ "java/lang/invoke/VarHandle" ∧ (parseMethodDescriptor (zX6_mixChildren).1.desc).map (fun d => d.parameters.length) = some 1 := by decide +kernel
abbrev zX6_mixHours : MI := (yX6_mixHours, cX6_mixHours, 7, (some .long))
theorem cz_X6_mixHours : wz zX6_mixHours ∈ lw_g := lw_g_in (i := 623) (by decide +kernel) rfl
theorem iz_X6_mixHours : Cond.instanceMethod yX6_mixHours ∈ lw_g := lw_g_in (i := 622) (by decide +kernel) rfl
theorem vz_X6_mixHours : Cond.selects RX6 yX6_mixHours yX6_mixHours ∈ lw_g := lw_g_in (i := 29) (by decide +kernel) rfl
theorem dz_X6_mixHours : (zX6_mixHours).1.cls ≠ "java/lang/invoke/MethodHandle" ∧ (zX6_mixHours).1.cls ≠ "java/lang/invoke/VarHandle" ∧ (parseMethodDescriptor (zX6_mixHours).1.desc).map (fun d => d.parameters.length) = some 1 := by decide +kernel
abbrev zX6_mix : MI := (yX6_mix, cX6_mix, 3, (some .long))
theorem cz_X6_mix : wz zX6_mix ∈ lw_g := lw_g_in (i := 614) (by decide +kernel) rfl
theorem sz_X6_mix : Cond.static yX6_mix ∈ lw_g := lw_g_in (i := 613) (by decide +kernel) rfl
theorem dz_X6_mix : (zX6_mix).1.cls ≠ "java/lang/invoke/MethodHandle" ∧ (zX6_mix).1.cls ≠ "java/lang/invoke/VarHandle" ∧ (parseMethodDescriptor (zX6_mix).1.desc).map (fun d => d.parameters.length) = some 2 := by decide +kernel
abbrev zX6_isDay : MI := (yX6_isDay, cX6_isDay, 1, (some .boolean))
theorem cz_X6_isDay : wz zX6_isDay ∈ lw_g := lw_g_in (i := 248) (by decide +kernel) rfl
theorem sz_X6_isDay : Cond.static yX6_isDay ∈ lw_g := lw_g_in (i := 247) (by decide +kernel) rfl
theorem dz_X6_isDay : (zX6_isDay).1.cls ≠ "java/lang/invoke/MethodHandle" ∧ (zX6_isDay).1.cls ≠ "java/lang/invoke/VarHandle" ∧ (parseMethodDescriptor (zX6_isDay).1.desc).map (fun d => d.parameters.length) = some 1 := by decide +kernel
abbrev zX6_isHour : MI := (yX6_isHour, cX6_isHour, 1, (some .boolean))
theorem cz_X6_isHour : wz zX6_isHour ∈ lw_g := lw_g_in (i := 421) (by decide +kernel) rfl
theorem sz_X6_isHour : Cond.static yX6_isHour ∈ lw_g := lw_g_in (i := 420) (by decide +kernel) rfl
theorem dz_X6_isHour : (zX6_isHour).1.cls ≠ "java/lang/invoke/MethodHandle" ∧ (zX6_isHour).1.cls ≠ "java/lang/invoke/VarHandle" ∧ (parseMethodDescriptor (zX6_isHour).1.desc).map (fun d => d.parameters.length) = some 1 := by decide +kernel
abbrev zX6_isWeek : MI := (yX6_isWeek, cX6_isWeek, 1, (some .boolean))
theorem cz_X6_isWeek : wz zX6_isWeek ∈ lw_g := lw_g_in (i := 405) (by decide +kernel) rfl
theorem sz_X6_isWeek : Cond.static yX6_isWeek ∈ lw_g := lw_g_in (i := 404) (by decide +kernel) rfl
theorem dz_X6_isWeek : (zX6_isWeek).1.cls ≠ "java/lang/invoke/MethodHandle" ∧ (zX6_isWeek).1.cls ≠ "java/lang/invoke/VarHandle" ∧ (parseMethodDescriptor (zX6_isWeek).1.desc).map (fun d => d.parameters.length) = some 1 := by decide +kernel
abbrev zX6_isGroup : MI := (yX6_isGroup, cX6_isGroup, 1, (some .boolean))
theorem cz_X6_isGroup : wz zX6_isGroup ∈ lw_g := lw_g_in (i := 291) (by decide +kernel) rfl
theorem sz_X6_isGroup : Cond.static yX6_isGroup ∈ lw_g := lw_g_in (i := 290) (by decide +kernel) rfl
theorem dz_X6_isGroup : (zX6_isGroup).1.cls ≠ "java/lang/invoke/MethodHandle" ∧ (zX6_isGroup).1.cls ≠ "java/lang/invoke/VarHandle" ∧ (parseMethodDescriptor (zX6_isGroup).1.desc).map (fun d => d.parameters.length) = some 1 := by decide +kernel
abbrev zX6_isSpan : MI := (yX6_isSpan, cX6_isSpan, 2, (some .boolean))
theorem cz_X6_isSpan : wz zX6_isSpan ∈ lw_g := lw_g_in (i := 251) (by decide +kernel) rfl
theorem sz_X6_isSpan : Cond.static yX6_isSpan ∈ lw_g := lw_g_in (i := 250) (by decide +kernel) rfl
theorem dz_X6_isSpan : (zX6_isSpan).1.cls ≠ "java/lang/invoke/MethodHandle" ∧ (zX6_isSpan).1.cls ≠ "java/lang/invoke/VarHandle" ∧ (parseMethodDescriptor (zX6_isSpan).1.desc).map (fun d => d.parameters.length) = some 2 := by decide +kernel
abbrev zX6_hourOfWeek : MI := (yX6_hourOfWeek, cX6_hourOfWeek, 2, (some .int))
theorem cz_X6_hourOfWeek : wz zX6_hourOfWeek ∈ lw_g := lw_g_in (i := 260) (by decide +kernel) rfl
theorem sz_X6_hourOfWeek : Cond.static yX6_hourOfWeek ∈ lw_g := lw_g_in (i := 259) (by decide +kernel) rfl
theorem dz_X6_hourOfWeek : (zX6_hourOfWeek).1.cls ≠ "java/lang/invoke/MethodHandle" ∧ (zX6_hourOfWeek).1.cls ≠ "java/lang/invoke/VarHandle" ∧ (parseMethodDescriptor (zX6_hourOfWeek).1.desc).map (fun d => d.parameters.length) = some 2 := by decide +kernel
abbrev zX6_hasHour : MI := (yX6_hasHour, cX6_hasHour, 3, (some .boolean))
theorem cz_X6_hasHour : wz zX6_hasHour ∈ lw_g := lw_g_in (i := 272) (by decide +kernel) rfl
theorem sz_X6_hasHour : Cond.static yX6_hasHour ∈ lw_g := lw_g_in (i := 271) (by decide +kernel) rfl
theorem dz_X6_hasHour : (zX6_hasHour).1.cls ≠ "java/lang/invoke/MethodHandle" ∧ (zX6_hasHour).1.cls ≠ "java/lang/invoke/VarHandle" ∧ (parseMethodDescriptor (zX6_hasHour).1.desc).map (fun d => d.parameters.length) = some 2 := by decide +kernel
abbrev zX6_spanOf : MI := (yX6_spanOf, cX6_spanOf, 5, (some .long))
theorem cz_X6_spanOf : wz zX6_spanOf ∈ lw_g := lw_g_in (i := 257) (by decide +kernel) rfl
theorem sz_X6_spanOf : Cond.static yX6_spanOf ∈ lw_g := lw_g_in (i := 256) (by decide +kernel) rfl
theorem dz_X6_spanOf : (zX6_spanOf).1.cls ≠ "java/lang/invoke/MethodHandle" ∧ (zX6_spanOf).1.cls ≠ "java/lang/invoke/VarHandle" ∧ (parseMethodDescriptor (zX6_spanOf).1.desc).map (fun d => d.parameters.length) = some 3 := by decide +kernel
abbrev zX6_withSpan : MI := (yX6_withSpan, cX6_withSpan, 5, (some .long))
theorem cz_X6_withSpan : wz zX6_withSpan ∈ lw_g := lw_g_in (i := 254) (by decide +kernel) rfl
theorem sz_X6_withSpan : Cond.static yX6_withSpan ∈ lw_g := lw_g_in (i := 253) (by decide +kernel) rfl
theorem dz_X6_withSpan : (zX6_withSpan).1.cls ≠ "java/lang/invoke/MethodHandle" ∧ (zX6_withSpan).1.cls ≠ "java/lang/invoke/VarHandle" ∧ (parseMethodDescriptor (zX6_withSpan).1.desc).map (fun d => d.parameters.length) = some 4 := by decide +kernel
abbrev zX7_init : MI := (yX7_init, cX7_init, 1, none)
theorem cz_X7_init : wz zX7_init ∈ lw_g := lw_g_in (i := 632) (by decide +kernel) rfl
theorem iz_X7_init : Cond.instanceMethod yX7_init ∈ lw_g := lw_g_in (i := 631) (by decide +kernel) rfl
theorem dz_X7_init : (zX7_init).1.cls ≠ "java/lang/invoke/MethodHandle" ∧ (zX7_init).1.cls ≠ "java/lang/invoke/VarHandle" ∧ (parseMethodDescriptor (zX7_init).1.desc).map (fun d => d.parameters.length) = some 0 := by decide +kernel
abbrev zX7_within : MI := (yX7_within, cX7_within, 3, (some .boolean))
theorem cz_X7_within : wz zX7_within ∈ lw_g := lw_g_in (i := 716) (by decide +kernel) rfl
theorem sz_X7_within : Cond.static yX7_within ∈ lw_g := lw_g_in (i := 715) (by decide +kernel) rfl
theorem dz_X7_within : (zX7_within).1.cls ≠ "java/lang/invoke/MethodHandle" ∧ (zX7_within).1.cls ≠ "java/lang/invoke/VarHandle" ∧ (parseMethodDescriptor (zX7_within).1.desc).map (fun d => d.parameters.length) = some 3 := by decide +kernel
abbrev zX7_isDay : MI := (yX7_isDay, cX7_isDay, 1, (some .boolean))
theorem cz_X7_isDay : wz zX7_isDay ∈ lw_g := lw_g_in (i := 755) (by decide +kernel) rfl
theorem sz_X7_isDay : Cond.static yX7_isDay ∈ lw_g := lw_g_in (i := 754) (by decide +kernel) rfl
theorem dz_X7_isDay : (zX7_isDay).1.cls ≠ "java/lang/invoke/MethodHandle" ∧ (zX7_isDay).1.cls ≠ "java/lang/invoke/VarHandle" ∧ (parseMethodDescriptor (zX7_isDay).1.desc).map (fun d => d.parameters.length) = some 1 := by decide +kernel
abbrev zX7_isSpan : MI := (yX7_isSpan, cX7_isSpan, 2, (some .boolean))
theorem cz_X7_isSpan : wz zX7_isSpan ∈ lw_g := lw_g_in (i := 758) (by decide +kernel) rfl
theorem sz_X7_isSpan : Cond.static yX7_isSpan ∈ lw_g := lw_g_in (i := 757) (by decide +kernel) rfl
theorem dz_X7_isSpan : (zX7_isSpan).1.cls ≠ "java/lang/invoke/MethodHandle" ∧ (zX7_isSpan).1.cls ≠ "java/lang/invoke/VarHandle" ∧ (parseMethodDescriptor (zX7_isSpan).1.desc).map (fun d => d.parameters.length) = some 2 := by decide +kernel
abbrev zX7_hasChild : MI := (yX7_hasChild, cX7_hasChild, 2, (some .boolean))
theorem cz_X7_hasChild : wz zX7_hasChild ∈ lw_g := lw_g_in (i := 728) (by decide +kernel) rfl
theorem iz_X7_hasChild : Cond.instanceMethod yX7_hasChild ∈ lw_g := lw_g_in (i := 727) (by decide +kernel) rfl
theorem vz_X7_hasChild : Cond.selects RX7 yX7_hasChild yX7_hasChild ∈ lw_g := lw_g_in (i := 31) (by decide +kernel) rfl
theorem dz_X7_hasChild : (zX7_hasChild).1.cls ≠ "java/lang/invoke/MethodHandle" ∧ (zX7_hasChild).1.cls ≠ "java/lang/invoke/VarHandle" ∧ (parseMethodDescriptor (zX7_hasChild).1.desc).map (fun d => d.parameters.length) = some 1 := by decide +kernel
abbrev zX7_isIn : MI := (yX7_isIn, cX7_isIn, 2, (some .boolean))
theorem cz_X7_isIn : wz zX7_isIn ∈ lw_g := lw_g_in (i := 778) (by decide +kernel) rfl
theorem iz_X7_isIn : Cond.instanceMethod yX7_isIn ∈ lw_g := lw_g_in (i := 777) (by decide +kernel) rfl
theorem vz_X7_isIn : Cond.selects RX7 yX7_isIn yX7_isIn ∈ lw_g := lw_g_in (i := 37) (by decide +kernel) rfl
theorem dz_X7_isIn : (zX7_isIn).1.cls ≠ "java/lang/invoke/MethodHandle" ∧ (zX7_isIn).1.cls ≠ "java/lang/invoke/VarHandle" ∧ (parseMethodDescriptor (zX7_isIn).1.desc).map (fun d => d.parameters.length) = some 1 := by decide +kernel
abbrev zX7_childMany : MI := (yX7_childMany, cX7_childMany, 3, (some .int))
theorem cz_X7_childMany : wz zX7_childMany ∈ lw_g := lw_g_in (i := 720) (by decide +kernel) rfl
theorem iz_X7_childMany : Cond.instanceMethod yX7_childMany ∈ lw_g := lw_g_in (i := 719) (by decide +kernel) rfl
theorem vz_X7_childMany : Cond.selects RX7 yX7_childMany yX7_childMany ∈ lw_g := lw_g_in (i := 30) (by decide +kernel) rfl
theorem dz_X7_childMany : (zX7_childMany).1.cls ≠ "java/lang/invoke/MethodHandle" ∧ (zX7_childMany).1.cls ≠ "java/lang/invoke/VarHandle" ∧ (parseMethodDescriptor (zX7_childMany).1.desc).map (fun d => d.parameters.length) = some 0 := by decide +kernel
abbrev zX7_addChild : MI := (yX7_addChild, cX7_addChild, 5, (some .int))
theorem cz_X7_addChild : wz zX7_addChild ∈ lw_g := lw_g_in (i := 713) (by decide +kernel) rfl
theorem iz_X7_addChild : Cond.instanceMethod yX7_addChild ∈ lw_g := lw_g_in (i := 711) (by decide +kernel) rfl
theorem vz_X7_addChild : Cond.selects RX7 yX7_addChild yX7_addChild ∈ lw_g := lw_g_in (i := 712) (by decide +kernel) rfl
theorem dz_X7_addChild : (zX7_addChild).1.cls ≠ "java/lang/invoke/MethodHandle" ∧ (zX7_addChild).1.cls ≠ "java/lang/invoke/VarHandle" ∧ (parseMethodDescriptor (zX7_addChild).1.desc).map (fun d => d.parameters.length) = some 2 := by decide +kernel
abbrev zX7_removeChild : MI := (yX7_removeChild, cX7_removeChild, 2, (some .int))
theorem cz_X7_removeChild : wz zX7_removeChild ∈ lw_g := lw_g_in (i := 724) (by decide +kernel) rfl
theorem iz_X7_removeChild : Cond.instanceMethod yX7_removeChild ∈ lw_g := lw_g_in (i := 722) (by decide +kernel) rfl
theorem vz_X7_removeChild : Cond.selects RX7 yX7_removeChild yX7_removeChild ∈ lw_g := lw_g_in (i := 723) (by decide +kernel) rfl
theorem dz_X7_removeChild : (zX7_removeChild).1.cls ≠ "java/lang/invoke/MethodHandle" ∧ (zX7_removeChild).1.cls ≠ "java/lang/invoke/VarHandle" ∧ (parseMethodDescriptor (zX7_removeChild).1.desc).map (fun d => d.parameters.length) = some 1 := by decide +kernel
abbrev zX7_children : MI := (yX7_children, cX7_children, 1, (some .int))
theorem cz_X7_children : wz zX7_children ∈ lw_g := lw_g_in (i := 732) (by decide +kernel) rfl
theorem iz_X7_children : Cond.instanceMethod yX7_children ∈ lw_g := lw_g_in (i := 730) (by decide +kernel) rfl
theorem vz_X7_children : Cond.selects RX7 yX7_children yX7_children ∈ lw_g := lw_g_in (i := 731) (by decide +kernel) rfl
theorem dz_X7_children : (zX7_children).1.cls ≠ "java/lang/invoke/MethodHandle" ∧ (zX7_children).1.cls ≠ "java/lang/invoke/VarHandle" ∧ (parseMethodDescriptor (zX7_children).1.desc).map (fun d => d.parameters.length) = some 0 := by decide +kernel
abbrev zX7_age : MI := (yX7_age, cX7_age, 2, (some .int))
theorem cz_X7_age : wz zX7_age ∈ lw_g := lw_g_in (i := 736) (by decide +kernel) rfl
theorem iz_X7_age : Cond.instanceMethod yX7_age ∈ lw_g := lw_g_in (i := 734) (by decide +kernel) rfl
theorem vz_X7_age : Cond.selects RX7 yX7_age yX7_age ∈ lw_g := lw_g_in (i := 735) (by decide +kernel) rfl
theorem dz_X7_age : (zX7_age).1.cls ≠ "java/lang/invoke/MethodHandle" ∧ (zX7_age).1.cls ≠ "java/lang/invoke/VarHandle" ∧ (parseMethodDescriptor (zX7_age).1.desc).map (fun d => d.parameters.length) = some 1 := by decide +kernel
abbrev zX7_isAdmitted : MI := (yX7_isAdmitted, cX7_isAdmitted, 2, (some .int))
theorem cz_X7_isAdmitted : wz zX7_isAdmitted ∈ lw_g := lw_g_in (i := 740) (by decide +kernel) rfl
theorem iz_X7_isAdmitted : Cond.instanceMethod yX7_isAdmitted ∈ lw_g := lw_g_in (i := 738) (by decide +kernel) rfl
theorem vz_X7_isAdmitted : Cond.selects RX7 yX7_isAdmitted yX7_isAdmitted ∈ lw_g := lw_g_in (i := 739) (by decide +kernel) rfl
theorem dz_X7_isAdmitted : (zX7_isAdmitted).1.cls ≠ "java/lang/invoke/MethodHandle" ∧ (zX7_isAdmitted).1.cls ≠ "java/lang/invoke/VarHandle" ∧ (parseMethodDescriptor (zX7_isAdmitted).1.desc).map (fun d => d.parameters.length) = some 1 := by decide +kernel
abbrev zX7_hoursOf : MI := (yX7_hoursOf, cX7_hoursOf, 4, (some .int))
theorem cz_X7_hoursOf : wz zX7_hoursOf ∈ lw_g := lw_g_in (i := 748) (by decide +kernel) rfl
theorem iz_X7_hoursOf : Cond.instanceMethod yX7_hoursOf ∈ lw_g := lw_g_in (i := 747) (by decide +kernel) rfl
theorem vz_X7_hoursOf : Cond.selects RX7 yX7_hoursOf yX7_hoursOf ∈ lw_g := lw_g_in (i := 32) (by decide +kernel) rfl
theorem dz_X7_hoursOf : (zX7_hoursOf).1.cls ≠ "java/lang/invoke/MethodHandle" ∧ (zX7_hoursOf).1.cls ≠ "java/lang/invoke/VarHandle" ∧ (parseMethodDescriptor (zX7_hoursOf).1.desc).map (fun d => d.parameters.length) = some 1 := by decide +kernel
abbrev zX7_hours : MI := (yX7_hours, cX7_hours, 2, (some .int))
theorem cz_X7_hours : wz zX7_hours ∈ lw_g := lw_g_in (i := 744) (by decide +kernel) rfl
theorem iz_X7_hours : Cond.instanceMethod yX7_hours ∈ lw_g := lw_g_in (i := 742) (by decide +kernel) rfl
theorem vz_X7_hours : Cond.selects RX7 yX7_hours yX7_hours ∈ lw_g := lw_g_in (i := 743) (by decide +kernel) rfl
theorem dz_X7_hours : (zX7_hours).1.cls ≠ "java/lang/invoke/MethodHandle" ∧ (zX7_hours).1.cls ≠ "java/lang/invoke/VarHandle" ∧ (parseMethodDescriptor (zX7_hours).1.desc).map (fun d => d.parameters.length) = some 1 := by decide +kernel
abbrev zX7_isBooked : MI := (yX7_isBooked, cX7_isBooked, 4, (some .boolean))
theorem cz_X7_isBooked : wz zX7_isBooked ∈ lw_g := lw_g_in (i := 766) (by decide +kernel) rfl
theorem iz_X7_isBooked : Cond.instanceMethod yX7_isBooked ∈ lw_g := lw_g_in (i := 765) (by decide +kernel) rfl
theorem vz_X7_isBooked : Cond.selects RX7 yX7_isBooked yX7_isBooked ∈ lw_g := lw_g_in (i := 34) (by decide +kernel) rfl
theorem dz_X7_isBooked : (zX7_isBooked).1.cls ≠ "java/lang/invoke/MethodHandle" ∧ (zX7_isBooked).1.cls ≠ "java/lang/invoke/VarHandle" ∧ (parseMethodDescriptor (zX7_isBooked).1.desc).map (fun d => d.parameters.length) = some 3 := by decide +kernel
abbrev zX7_ageGroup : MI := (yX7_ageGroup, cX7_ageGroup, 2, (some .int))
theorem cz_X7_ageGroup : wz zX7_ageGroup ∈ lw_g := lw_g_in (i := 782) (by decide +kernel) rfl
theorem iz_X7_ageGroup : Cond.instanceMethod yX7_ageGroup ∈ lw_g := lw_g_in (i := 781) (by decide +kernel) rfl
theorem vz_X7_ageGroup : Cond.selects RX7 yX7_ageGroup yX7_ageGroup ∈ lw_g := lw_g_in (i := 38) (by decide +kernel) rfl
theorem dz_X7_ageGroup : (zX7_ageGroup).1.cls ≠ "java/lang/invoke/MethodHandle" ∧ (zX7_ageGroup).1.cls ≠ "java/lang/invoke/VarHandle" ∧ (parseMethodDescriptor (zX7_ageGroup).1.desc).map (fun d => d.parameters.length) = some 1 := by decide +kernel
abbrev zX7_presentOf : MI := (yX7_presentOf, cX7_presentOf, 6, (some .int))
theorem cz_X7_presentOf : wz zX7_presentOf ∈ lw_g := lw_g_in (i := 774) (by decide +kernel) rfl
theorem iz_X7_presentOf : Cond.instanceMethod yX7_presentOf ∈ lw_g := lw_g_in (i := 773) (by decide +kernel) rfl
theorem vz_X7_presentOf : Cond.selects RX7 yX7_presentOf yX7_presentOf ∈ lw_g := lw_g_in (i := 36) (by decide +kernel) rfl
theorem dz_X7_presentOf : (zX7_presentOf).1.cls ≠ "java/lang/invoke/MethodHandle" ∧ (zX7_presentOf).1.cls ≠ "java/lang/invoke/VarHandle" ∧ (parseMethodDescriptor (zX7_presentOf).1.desc).map (fun d => d.parameters.length) = some 3 := by decide +kernel
abbrev zX7_needOf : MI := (yX7_needOf, cX7_needOf, 8, (some .int))
theorem cz_X7_needOf : wz zX7_needOf ∈ lw_g := lw_g_in (i := 786) (by decide +kernel) rfl
theorem iz_X7_needOf : Cond.instanceMethod yX7_needOf ∈ lw_g := lw_g_in (i := 785) (by decide +kernel) rfl
theorem vz_X7_needOf : Cond.selects RX7 yX7_needOf yX7_needOf ∈ lw_g := lw_g_in (i := 39) (by decide +kernel) rfl
theorem dz_X7_needOf : (zX7_needOf).1.cls ≠ "java/lang/invoke/MethodHandle" ∧ (zX7_needOf).1.cls ≠ "java/lang/invoke/VarHandle" ∧ (parseMethodDescriptor (zX7_needOf).1.desc).map (fun d => d.parameters.length) = some 3 := by decide +kernel
abbrev zX7_staffOf : MI := (yX7_staffOf, cX7_staffOf, 5, (some .int))
theorem cz_X7_staffOf : wz zX7_staffOf ∈ lw_g := lw_g_in (i := 790) (by decide +kernel) rfl
theorem iz_X7_staffOf : Cond.instanceMethod yX7_staffOf ∈ lw_g := lw_g_in (i := 789) (by decide +kernel) rfl
theorem vz_X7_staffOf : Cond.selects RX7 yX7_staffOf yX7_staffOf ∈ lw_g := lw_g_in (i := 40) (by decide +kernel) rfl
theorem dz_X7_staffOf : (zX7_staffOf).1.cls ≠ "java/lang/invoke/MethodHandle" ∧ (zX7_staffOf).1.cls ≠ "java/lang/invoke/VarHandle" ∧ (parseMethodDescriptor (zX7_staffOf).1.desc).map (fun d => d.parameters.length) = some 2 := by decide +kernel
abbrev zX7_isSafe : MI := (yX7_isSafe, cX7_isSafe, 5, (some .boolean))
theorem cz_X7_isSafe : wz zX7_isSafe ∈ lw_g := lw_g_in (i := 770) (by decide +kernel) rfl
theorem iz_X7_isSafe : Cond.instanceMethod yX7_isSafe ∈ lw_g := lw_g_in (i := 769) (by decide +kernel) rfl
theorem vz_X7_isSafe : Cond.selects RX7 yX7_isSafe yX7_isSafe ∈ lw_g := lw_g_in (i := 35) (by decide +kernel) rfl
theorem dz_X7_isSafe : (zX7_isSafe).1.cls ≠ "java/lang/invoke/MethodHandle" ∧ (zX7_isSafe).1.cls ≠ "java/lang/invoke/VarHandle" ∧ (parseMethodDescriptor (zX7_isSafe).1.desc).map (fun d => d.parameters.length) = some 3 := by decide +kernel
abbrev zX7_canHave : MI := (yX7_canHave, cX7_canHave, 7, (some .boolean))
theorem cz_X7_canHave : wz zX7_canHave ∈ lw_g := lw_g_in (i := 762) (by decide +kernel) rfl
theorem iz_X7_canHave : Cond.instanceMethod yX7_canHave ∈ lw_g := lw_g_in (i := 761) (by decide +kernel) rfl
theorem vz_X7_canHave : Cond.selects RX7 yX7_canHave yX7_canHave ∈ lw_g := lw_g_in (i := 33) (by decide +kernel) rfl
theorem dz_X7_canHave : (zX7_canHave).1.cls ≠ "java/lang/invoke/MethodHandle" ∧ (zX7_canHave).1.cls ≠ "java/lang/invoke/VarHandle" ∧ (parseMethodDescriptor (zX7_canHave).1.desc).map (fun d => d.parameters.length) = some 4 := by decide +kernel
abbrev zX7_book : MI := (yX7_book, cX7_book, 5, (some .int))
theorem cz_X7_book : wz zX7_book ∈ lw_g := lw_g_in (i := 752) (by decide +kernel) rfl
theorem iz_X7_book : Cond.instanceMethod yX7_book ∈ lw_g := lw_g_in (i := 750) (by decide +kernel) rfl
theorem vz_X7_book : Cond.selects RX7 yX7_book yX7_book ∈ lw_g := lw_g_in (i := 751) (by decide +kernel) rfl
theorem dz_X7_book : (zX7_book).1.cls ≠ "java/lang/invoke/MethodHandle" ∧ (zX7_book).1.cls ≠ "java/lang/invoke/VarHandle" ∧ (parseMethodDescriptor (zX7_book).1.desc).map (fun d => d.parameters.length) = some 4 := by decide +kernel
abbrev zX7_nextMonth : MI := (yX7_nextMonth, cX7_nextMonth, 2, (some .int))
theorem cz_X7_nextMonth : wz zX7_nextMonth ∈ lw_g := lw_g_in (i := 794) (by decide +kernel) rfl
theorem iz_X7_nextMonth : Cond.instanceMethod yX7_nextMonth ∈ lw_g := lw_g_in (i := 792) (by decide +kernel) rfl
theorem vz_X7_nextMonth : Cond.selects RX7 yX7_nextMonth yX7_nextMonth ∈ lw_g := lw_g_in (i := 793) (by decide +kernel) rfl
theorem dz_X7_nextMonth : (zX7_nextMonth).1.cls ≠ "java/lang/invoke/MethodHandle" ∧ (zX7_nextMonth).1.cls ≠ "java/lang/invoke/VarHandle" ∧ (parseMethodDescriptor (zX7_nextMonth).1.desc).map (fun d => d.parameters.length) = some 0 := by decide +kernel
abbrev zX7_isWaiting : MI := (yX7_isWaiting, cX7_isWaiting, 2, (some .boolean))
theorem cz_X7_isWaiting : wz zX7_isWaiting ∈ lw_g := lw_g_in (i := 814) (by decide +kernel) rfl
theorem iz_X7_isWaiting : Cond.instanceMethod yX7_isWaiting ∈ lw_g := lw_g_in (i := 813) (by decide +kernel) rfl
theorem vz_X7_isWaiting : Cond.selects RX7 yX7_isWaiting yX7_isWaiting ∈ lw_g := lw_g_in (i := 42) (by decide +kernel) rfl
theorem dz_X7_isWaiting : (zX7_isWaiting).1.cls ≠ "java/lang/invoke/MethodHandle" ∧ (zX7_isWaiting).1.cls ≠ "java/lang/invoke/VarHandle" ∧ (parseMethodDescriptor (zX7_isWaiting).1.desc).map (fun d => d.parameters.length) = some 1 := by decide +kernel
abbrev zX7_waited : MI := (yX7_waited, cX7_waited, 2, (some .int))
theorem cz_X7_waited : wz zX7_waited ∈ lw_g := lw_g_in (i := 798) (by decide +kernel) rfl
theorem iz_X7_waited : Cond.instanceMethod yX7_waited ∈ lw_g := lw_g_in (i := 796) (by decide +kernel) rfl
theorem vz_X7_waited : Cond.selects RX7 yX7_waited yX7_waited ∈ lw_g := lw_g_in (i := 797) (by decide +kernel) rfl
theorem dz_X7_waited : (zX7_waited).1.cls ≠ "java/lang/invoke/MethodHandle" ∧ (zX7_waited).1.cls ≠ "java/lang/invoke/VarHandle" ∧ (parseMethodDescriptor (zX7_waited).1.desc).map (fun d => d.parameters.length) = some 1 := by decide +kernel
abbrev zX7_pointsOf : MI := (yX7_pointsOf, cX7_pointsOf, 4, (some .int))
theorem cz_X7_pointsOf : wz zX7_pointsOf ∈ lw_g := lw_g_in (i := 806) (by decide +kernel) rfl
theorem iz_X7_pointsOf : Cond.instanceMethod yX7_pointsOf ∈ lw_g := lw_g_in (i := 805) (by decide +kernel) rfl
theorem vz_X7_pointsOf : Cond.selects RX7 yX7_pointsOf yX7_pointsOf ∈ lw_g := lw_g_in (i := 41) (by decide +kernel) rfl
theorem dz_X7_pointsOf : (zX7_pointsOf).1.cls ≠ "java/lang/invoke/MethodHandle" ∧ (zX7_pointsOf).1.cls ≠ "java/lang/invoke/VarHandle" ∧ (parseMethodDescriptor (zX7_pointsOf).1.desc).map (fun d => d.parameters.length) = some 1 := by decide +kernel
abbrev zX7_points : MI := (yX7_points, cX7_points, 2, (some .int))
theorem cz_X7_points : wz zX7_points ∈ lw_g := lw_g_in (i := 802) (by decide +kernel) rfl
theorem iz_X7_points : Cond.instanceMethod yX7_points ∈ lw_g := lw_g_in (i := 800) (by decide +kernel) rfl
theorem vz_X7_points : Cond.selects RX7 yX7_points yX7_points ∈ lw_g := lw_g_in (i := 801) (by decide +kernel) rfl
theorem dz_X7_points : (zX7_points).1.cls ≠ "java/lang/invoke/MethodHandle" ∧ (zX7_points).1.cls ≠ "java/lang/invoke/VarHandle" ∧ (parseMethodDescriptor (zX7_points).1.desc).map (fun d => d.parameters.length) = some 1 := by decide +kernel
abbrev zX7_isBefore : MI := (yX7_isBefore, cX7_isBefore, 5, (some .boolean))
theorem cz_X7_isBefore : wz zX7_isBefore ∈ lw_g := lw_g_in (i := 822) (by decide +kernel) rfl
theorem iz_X7_isBefore : Cond.instanceMethod yX7_isBefore ∈ lw_g := lw_g_in (i := 821) (by decide +kernel) rfl
theorem vz_X7_isBefore : Cond.selects RX7 yX7_isBefore yX7_isBefore ∈ lw_g := lw_g_in (i := 44) (by decide +kernel) rfl
theorem dz_X7_isBefore : (zX7_isBefore).1.cls ≠ "java/lang/invoke/MethodHandle" ∧ (zX7_isBefore).1.cls ≠ "java/lang/invoke/VarHandle" ∧ (parseMethodDescriptor (zX7_isBefore).1.desc).map (fun d => d.parameters.length) = some 2 := by decide +kernel
abbrev zX7_placeOf : MI := (yX7_placeOf, cX7_placeOf, 4, (some .int))
theorem cz_X7_placeOf : wz zX7_placeOf ∈ lw_g := lw_g_in (i := 818) (by decide +kernel) rfl
theorem iz_X7_placeOf : Cond.instanceMethod yX7_placeOf ∈ lw_g := lw_g_in (i := 817) (by decide +kernel) rfl
theorem vz_X7_placeOf : Cond.selects RX7 yX7_placeOf yX7_placeOf ∈ lw_g := lw_g_in (i := 43) (by decide +kernel) rfl
theorem dz_X7_placeOf : (zX7_placeOf).1.cls ≠ "java/lang/invoke/MethodHandle" ∧ (zX7_placeOf).1.cls ≠ "java/lang/invoke/VarHandle" ∧ (parseMethodDescriptor (zX7_placeOf).1.desc).map (fun d => d.parameters.length) = some 1 := by decide +kernel
abbrev zX7_waiting : MI := (yX7_waiting, cX7_waiting, 4, (some .int))
theorem cz_X7_waiting : wz zX7_waiting ∈ lw_g := lw_g_in (i := 810) (by decide +kernel) rfl
theorem iz_X7_waiting : Cond.instanceMethod yX7_waiting ∈ lw_g := lw_g_in (i := 808) (by decide +kernel) rfl
theorem vz_X7_waiting : Cond.selects RX7 yX7_waiting yX7_waiting ∈ lw_g := lw_g_in (i := 809) (by decide +kernel) rfl
theorem dz_X7_waiting : (zX7_waiting).1.cls ≠ "java/lang/invoke/MethodHandle" ∧ (zX7_waiting).1.cls ≠ "java/lang/invoke/VarHandle" ∧ (parseMethodDescriptor (zX7_waiting).1.desc).map (fun d => d.parameters.length) = some 1 := by decide +kernel
abbrev zX7_canBeAdmitted : MI := (yX7_canBeAdmitted, cX7_canBeAdmitted, 5, (some .boolean))
theorem cz_X7_canBeAdmitted : wz zX7_canBeAdmitted ∈ lw_g := lw_g_in (i := 830) (by decide +kernel) rfl
theorem iz_X7_canBeAdmitted : Cond.instanceMethod yX7_canBeAdmitted ∈ lw_g := lw_g_in (i := 829) (by decide +kernel) rfl
theorem vz_X7_canBeAdmitted : Cond.selects RX7 yX7_canBeAdmitted yX7_canBeAdmitted ∈ lw_g := lw_g_in (i := 45) (by decide +kernel) rfl
theorem dz_X7_canBeAdmitted : (zX7_canBeAdmitted).1.cls ≠ "java/lang/invoke/MethodHandle" ∧ (zX7_canBeAdmitted).1.cls ≠ "java/lang/invoke/VarHandle" ∧ (parseMethodDescriptor (zX7_canBeAdmitted).1.desc).map (fun d => d.parameters.length) = some 1 := by decide +kernel
abbrev zX7_admit : MI := (yX7_admit, cX7_admit, 4, (some .int))
theorem cz_X7_admit : wz zX7_admit ∈ lw_g := lw_g_in (i := 826) (by decide +kernel) rfl
theorem iz_X7_admit : Cond.instanceMethod yX7_admit ∈ lw_g := lw_g_in (i := 824) (by decide +kernel) rfl
theorem vz_X7_admit : Cond.selects RX7 yX7_admit yX7_admit ∈ lw_g := lw_g_in (i := 825) (by decide +kernel) rfl
theorem dz_X7_admit : (zX7_admit).1.cls ≠ "java/lang/invoke/MethodHandle" ∧ (zX7_admit).1.cls ≠ "java/lang/invoke/VarHandle" ∧ (parseMethodDescriptor (zX7_admit).1.desc).map (fun d => d.parameters.length) = some 0 := by decide +kernel
abbrev zX7_release : MI := (yX7_release, cX7_release, 2, (some .int))
theorem cz_X7_release : wz zX7_release ∈ lw_g := lw_g_in (i := 834) (by decide +kernel) rfl
theorem iz_X7_release : Cond.instanceMethod yX7_release ∈ lw_g := lw_g_in (i := 832) (by decide +kernel) rfl
theorem vz_X7_release : Cond.selects RX7 yX7_release yX7_release ∈ lw_g := lw_g_in (i := 833) (by decide +kernel) rfl
theorem dz_X7_release : (zX7_release).1.cls ≠ "java/lang/invoke/MethodHandle" ∧ (zX7_release).1.cls ≠ "java/lang/invoke/VarHandle" ∧ (parseMethodDescriptor (zX7_release).1.desc).map (fun d => d.parameters.length) = some 1 := by decide +kernel
abbrev zX7_hasEducator : MI := (yX7_hasEducator, cX7_hasEducator, 2, (some .boolean))
theorem cz_X7_hasEducator : wz zX7_hasEducator ∈ lw_g := lw_g_in (i := 850) (by decide +kernel) rfl
theorem iz_X7_hasEducator : Cond.instanceMethod yX7_hasEducator ∈ lw_g := lw_g_in (i := 849) (by decide +kernel) rfl
theorem vz_X7_hasEducator : Cond.selects RX7 yX7_hasEducator yX7_hasEducator ∈ lw_g := lw_g_in (i := 47) (by decide +kernel) rfl
theorem dz_X7_hasEducator : (zX7_hasEducator).1.cls ≠ "java/lang/invoke/MethodHandle" ∧ (zX7_hasEducator).1.cls ≠ "java/lang/invoke/VarHandle" ∧ (parseMethodDescriptor (zX7_hasEducator).1.desc).map (fun d => d.parameters.length) = some 1 := by decide +kernel
abbrev zX7_educatorMany : MI := (yX7_educatorMany, cX7_educatorMany, 3, (some .int))
theorem cz_X7_educatorMany : wz zX7_educatorMany ∈ lw_g := lw_g_in (i := 842) (by decide +kernel) rfl
theorem iz_X7_educatorMany : Cond.instanceMethod yX7_educatorMany ∈ lw_g := lw_g_in (i := 841) (by decide +kernel) rfl
theorem vz_X7_educatorMany : Cond.selects RX7 yX7_educatorMany yX7_educatorMany ∈ lw_g := lw_g_in (i := 46) (by decide +kernel) rfl
theorem dz_X7_educatorMany : (zX7_educatorMany).1.cls ≠ "java/lang/invoke/MethodHandle" ∧ (zX7_educatorMany).1.cls ≠ "java/lang/invoke/VarHandle" ∧ (parseMethodDescriptor (zX7_educatorMany).1.desc).map (fun d => d.parameters.length) = some 0 := by decide +kernel
abbrev zX7_addEducator : MI := (yX7_addEducator, cX7_addEducator, 3, (some .int))
theorem cz_X7_addEducator : wz zX7_addEducator ∈ lw_g := lw_g_in (i := 838) (by decide +kernel) rfl
theorem iz_X7_addEducator : Cond.instanceMethod yX7_addEducator ∈ lw_g := lw_g_in (i := 836) (by decide +kernel) rfl
theorem vz_X7_addEducator : Cond.selects RX7 yX7_addEducator yX7_addEducator ∈ lw_g := lw_g_in (i := 837) (by decide +kernel) rfl
theorem dz_X7_addEducator : (zX7_addEducator).1.cls ≠ "java/lang/invoke/MethodHandle" ∧ (zX7_addEducator).1.cls ≠ "java/lang/invoke/VarHandle" ∧ (parseMethodDescriptor (zX7_addEducator).1.desc).map (fun d => d.parameters.length) = some 0 := by decide +kernel
abbrev zX7_removeEducator : MI := (yX7_removeEducator, cX7_removeEducator, 2, (some .int))
theorem cz_X7_removeEducator : wz zX7_removeEducator ∈ lw_g := lw_g_in (i := 846) (by decide +kernel) rfl
theorem iz_X7_removeEducator : Cond.instanceMethod yX7_removeEducator ∈ lw_g := lw_g_in (i := 844) (by decide +kernel) rfl
theorem vz_X7_removeEducator : Cond.selects RX7 yX7_removeEducator yX7_removeEducator ∈ lw_g := lw_g_in (i := 845) (by decide +kernel) rfl
theorem dz_X7_removeEducator : (zX7_removeEducator).1.cls ≠ "java/lang/invoke/MethodHandle" ∧ (zX7_removeEducator).1.cls ≠ "java/lang/invoke/VarHandle" ∧ (parseMethodDescriptor (zX7_removeEducator).1.desc).map (fun d => d.parameters.length) = some 1 := by decide +kernel
abbrev zX7_educators : MI := (yX7_educators, cX7_educators, 1, (some .int))
theorem cz_X7_educators : wz zX7_educators ∈ lw_g := lw_g_in (i := 854) (by decide +kernel) rfl
theorem iz_X7_educators : Cond.instanceMethod yX7_educators ∈ lw_g := lw_g_in (i := 852) (by decide +kernel) rfl
theorem vz_X7_educators : Cond.selects RX7 yX7_educators yX7_educators ∈ lw_g := lw_g_in (i := 853) (by decide +kernel) rfl
theorem dz_X7_educators : (zX7_educators).1.cls ≠ "java/lang/invoke/MethodHandle" ∧ (zX7_educators).1.cls ≠ "java/lang/invoke/VarHandle" ∧ (parseMethodDescriptor (zX7_educators).1.desc).map (fun d => d.parameters.length) = some 0 := by decide +kernel
abbrev zX7_work : MI := (yX7_work, cX7_work, 7, (some .int))
theorem cz_X7_work : wz zX7_work ∈ lw_g := lw_g_in (i := 858) (by decide +kernel) rfl
theorem iz_X7_work : Cond.instanceMethod yX7_work ∈ lw_g := lw_g_in (i := 856) (by decide +kernel) rfl
theorem vz_X7_work : Cond.selects RX7 yX7_work yX7_work ∈ lw_g := lw_g_in (i := 857) (by decide +kernel) rfl
theorem dz_X7_work : (zX7_work).1.cls ≠ "java/lang/invoke/MethodHandle" ∧ (zX7_work).1.cls ≠ "java/lang/invoke/VarHandle" ∧ (parseMethodDescriptor (zX7_work).1.desc).map (fun d => d.parameters.length) = some 4 := by decide +kernel
abbrev zX7_isWeek : MI := (yX7_isWeek, cX7_isWeek, 1, (some .boolean))
theorem cz_X7_isWeek : wz zX7_isWeek ∈ lw_g := lw_g_in (i := 865) (by decide +kernel) rfl
theorem sz_X7_isWeek : Cond.static yX7_isWeek ∈ lw_g := lw_g_in (i := 864) (by decide +kernel) rfl
theorem dz_X7_isWeek : (zX7_isWeek).1.cls ≠ "java/lang/invoke/MethodHandle" ∧ (zX7_isWeek).1.cls ≠ "java/lang/invoke/VarHandle" ∧ (parseMethodDescriptor (zX7_isWeek).1.desc).map (fun d => d.parameters.length) = some 1 := by decide +kernel
abbrev zX7_setHoliday : MI := (yX7_setHoliday, cX7_setHoliday, 6, (some .int))
theorem cz_X7_setHoliday : wz zX7_setHoliday ∈ lw_g := lw_g_in (i := 862) (by decide +kernel) rfl
theorem iz_X7_setHoliday : Cond.instanceMethod yX7_setHoliday ∈ lw_g := lw_g_in (i := 860) (by decide +kernel) rfl
theorem vz_X7_setHoliday : Cond.selects RX7 yX7_setHoliday yX7_setHoliday ∈ lw_g := lw_g_in (i := 861) (by decide +kernel) rfl
theorem dz_X7_setHoliday : (zX7_setHoliday).1.cls ≠ "java/lang/invoke/MethodHandle" ∧ (zX7_setHoliday).1.cls ≠ "java/lang/invoke/VarHandle" ∧ (parseMethodDescriptor (zX7_setHoliday).1.desc).map (fun d => d.parameters.length) = some 3 := by decide +kernel
abbrev zX7_isAgeGroup : MI := (yX7_isAgeGroup, cX7_isAgeGroup, 1, (some .boolean))
theorem cz_X7_isAgeGroup : wz zX7_isAgeGroup ∈ lw_g := lw_g_in (i := 872) (by decide +kernel) rfl
theorem sz_X7_isAgeGroup : Cond.static yX7_isAgeGroup ∈ lw_g := lw_g_in (i := 871) (by decide +kernel) rfl
theorem dz_X7_isAgeGroup : (zX7_isAgeGroup).1.cls ≠ "java/lang/invoke/MethodHandle" ∧ (zX7_isAgeGroup).1.cls ≠ "java/lang/invoke/VarHandle" ∧ (parseMethodDescriptor (zX7_isAgeGroup).1.desc).map (fun d => d.parameters.length) = some 1 := by decide +kernel
abbrev zX7_setRatio : MI := (yX7_setRatio, cX7_setRatio, 4, (some .int))
theorem cz_X7_setRatio : wz zX7_setRatio ∈ lw_g := lw_g_in (i := 869) (by decide +kernel) rfl
theorem iz_X7_setRatio : Cond.instanceMethod yX7_setRatio ∈ lw_g := lw_g_in (i := 867) (by decide +kernel) rfl
theorem vz_X7_setRatio : Cond.selects RX7 yX7_setRatio yX7_setRatio ∈ lw_g := lw_g_in (i := 868) (by decide +kernel) rfl
theorem dz_X7_setRatio : (zX7_setRatio).1.cls ≠ "java/lang/invoke/MethodHandle" ∧ (zX7_setRatio).1.cls ≠ "java/lang/invoke/VarHandle" ∧ (parseMethodDescriptor (zX7_setRatio).1.desc).map (fun d => d.parameters.length) = some 2 := by decide +kernel
abbrev zX7_setRoomLimit : MI := (yX7_setRoomLimit, cX7_setRoomLimit, 3, (some .int))
theorem cz_X7_setRoomLimit : wz zX7_setRoomLimit ∈ lw_g := lw_g_in (i := 876) (by decide +kernel) rfl
theorem iz_X7_setRoomLimit : Cond.instanceMethod yX7_setRoomLimit ∈ lw_g := lw_g_in (i := 874) (by decide +kernel) rfl
theorem vz_X7_setRoomLimit : Cond.selects RX7 yX7_setRoomLimit yX7_setRoomLimit ∈ lw_g := lw_g_in (i := 875) (by decide +kernel) rfl
theorem dz_X7_setRoomLimit : (zX7_setRoomLimit).1.cls ≠ "java/lang/invoke/MethodHandle" ∧ (zX7_setRoomLimit).1.cls ≠ "java/lang/invoke/VarHandle" ∧ (parseMethodDescriptor (zX7_setRoomLimit).1.desc).map (fun d => d.parameters.length) = some 1 := by decide +kernel
abbrev zX7_isHour : MI := (yX7_isHour, cX7_isHour, 2, (some .boolean))
theorem cz_X7_isHour : wz zX7_isHour ∈ lw_g := lw_g_in (i := 883) (by decide +kernel) rfl
theorem sz_X7_isHour : Cond.static yX7_isHour ∈ lw_g := lw_g_in (i := 882) (by decide +kernel) rfl
theorem dz_X7_isHour : (zX7_isHour).1.cls ≠ "java/lang/invoke/MethodHandle" ∧ (zX7_isHour).1.cls ≠ "java/lang/invoke/VarHandle" ∧ (parseMethodDescriptor (zX7_isHour).1.desc).map (fun d => d.parameters.length) = some 2 := by decide +kernel
abbrev zX7_present : MI := (yX7_present, cX7_present, 3, (some .int))
theorem cz_X7_present : wz zX7_present ∈ lw_g := lw_g_in (i := 880) (by decide +kernel) rfl
theorem iz_X7_present : Cond.instanceMethod yX7_present ∈ lw_g := lw_g_in (i := 878) (by decide +kernel) rfl
theorem vz_X7_present : Cond.selects RX7 yX7_present yX7_present ∈ lw_g := lw_g_in (i := 879) (by decide +kernel) rfl
theorem dz_X7_present : (zX7_present).1.cls ≠ "java/lang/invoke/MethodHandle" ∧ (zX7_present).1.cls ≠ "java/lang/invoke/VarHandle" ∧ (parseMethodDescriptor (zX7_present).1.desc).map (fun d => d.parameters.length) = some 2 := by decide +kernel
abbrev zX7_need : MI := (yX7_need, cX7_need, 3, (some .int))
theorem cz_X7_need : wz zX7_need ∈ lw_g := lw_g_in (i := 887) (by decide +kernel) rfl
theorem iz_X7_need : Cond.instanceMethod yX7_need ∈ lw_g := lw_g_in (i := 885) (by decide +kernel) rfl
theorem vz_X7_need : Cond.selects RX7 yX7_need yX7_need ∈ lw_g := lw_g_in (i := 886) (by decide +kernel) rfl
theorem dz_X7_need : (zX7_need).1.cls ≠ "java/lang/invoke/MethodHandle" ∧ (zX7_need).1.cls ≠ "java/lang/invoke/VarHandle" ∧ (parseMethodDescriptor (zX7_need).1.desc).map (fun d => d.parameters.length) = some 2 := by decide +kernel
abbrev zX7_staff : MI := (yX7_staff, cX7_staff, 3, (some .int))
theorem cz_X7_staff : wz zX7_staff ∈ lw_g := lw_g_in (i := 891) (by decide +kernel) rfl
theorem iz_X7_staff : Cond.instanceMethod yX7_staff ∈ lw_g := lw_g_in (i := 889) (by decide +kernel) rfl
theorem vz_X7_staff : Cond.selects RX7 yX7_staff yX7_staff ∈ lw_g := lw_g_in (i := 890) (by decide +kernel) rfl
theorem dz_X7_staff : (zX7_staff).1.cls ≠ "java/lang/invoke/MethodHandle" ∧ (zX7_staff).1.cls ≠ "java/lang/invoke/VarHandle" ∧ (parseMethodDescriptor (zX7_staff).1.desc).map (fun d => d.parameters.length) = some 2 := by decide +kernel
abbrev zX7_unsafeMany : MI := (yX7_unsafeMany, cX7_unsafeMany, 4, (some .int))
theorem cz_X7_unsafeMany : wz zX7_unsafeMany ∈ lw_g := lw_g_in (i := 899) (by decide +kernel) rfl
theorem iz_X7_unsafeMany : Cond.instanceMethod yX7_unsafeMany ∈ lw_g := lw_g_in (i := 898) (by decide +kernel) rfl
theorem vz_X7_unsafeMany : Cond.selects RX7 yX7_unsafeMany yX7_unsafeMany ∈ lw_g := lw_g_in (i := 48) (by decide +kernel) rfl
theorem dz_X7_unsafeMany : (zX7_unsafeMany).1.cls ≠ "java/lang/invoke/MethodHandle" ∧ (zX7_unsafeMany).1.cls ≠ "java/lang/invoke/VarHandle" ∧ (parseMethodDescriptor (zX7_unsafeMany).1.desc).map (fun d => d.parameters.length) = some 0 := by decide +kernel
abbrev zX7_unsafeHours : MI := (yX7_unsafeHours, cX7_unsafeHours, 1, (some .int))
theorem cz_X7_unsafeHours : wz zX7_unsafeHours ∈ lw_g := lw_g_in (i := 895) (by decide +kernel) rfl
theorem iz_X7_unsafeHours : Cond.instanceMethod yX7_unsafeHours ∈ lw_g := lw_g_in (i := 893) (by decide +kernel) rfl
theorem vz_X7_unsafeHours : Cond.selects RX7 yX7_unsafeHours yX7_unsafeHours ∈ lw_g := lw_g_in (i := 894) (by decide +kernel) rfl
theorem dz_X7_unsafeHours : (zX7_unsafeHours).1.cls ≠ "java/lang/invoke/MethodHandle" ∧ (zX7_unsafeHours).1.cls ≠ "java/lang/invoke/VarHandle" ∧ (parseMethodDescriptor (zX7_unsafeHours).1.desc).map (fun d => d.parameters.length) = some 0 := by decide +kernel
abbrev zX7_load : MI := (yX7_load, cX7_load, 5, (some .double))
theorem cz_X7_load : wz zX7_load ∈ lw_g := lw_g_in (i := 903) (by decide +kernel) rfl
theorem iz_X7_load : Cond.instanceMethod yX7_load ∈ lw_g := lw_g_in (i := 901) (by decide +kernel) rfl
theorem vz_X7_load : Cond.selects RX7 yX7_load yX7_load ∈ lw_g := lw_g_in (i := 902) (by decide +kernel) rfl
theorem dz_X7_load : (zX7_load).1.cls ≠ "java/lang/invoke/MethodHandle" ∧ (zX7_load).1.cls ≠ "java/lang/invoke/VarHandle" ∧ (parseMethodDescriptor (zX7_load).1.desc).map (fun d => d.parameters.length) = some 1 := by decide +kernel
abbrev zX7_setRate : MI := (yX7_setRate, cX7_setRate, 4, (some .int))
theorem cz_X7_setRate : wz zX7_setRate ∈ lw_g := lw_g_in (i := 908) (by decide +kernel) rfl
theorem iz_X7_setRate : Cond.instanceMethod yX7_setRate ∈ lw_g := lw_g_in (i := 906) (by decide +kernel) rfl
theorem vz_X7_setRate : Cond.selects RX7 yX7_setRate yX7_setRate ∈ lw_g := lw_g_in (i := 907) (by decide +kernel) rfl
theorem dz_X7_setRate : (zX7_setRate).1.cls ≠ "java/lang/invoke/MethodHandle" ∧ (zX7_setRate).1.cls ≠ "java/lang/invoke/VarHandle" ∧ (parseMethodDescriptor (zX7_setRate).1.desc).map (fun d => d.parameters.length) = some 2 := by decide +kernel
abbrev zX7_feeOf : MI := (yX7_feeOf, cX7_feeOf, 5, (some .int))
theorem cz_X7_feeOf : wz zX7_feeOf ∈ lw_g := lw_g_in (i := 916) (by decide +kernel) rfl
theorem iz_X7_feeOf : Cond.instanceMethod yX7_feeOf ∈ lw_g := lw_g_in (i := 915) (by decide +kernel) rfl
theorem vz_X7_feeOf : Cond.selects RX7 yX7_feeOf yX7_feeOf ∈ lw_g := lw_g_in (i := 49) (by decide +kernel) rfl
theorem dz_X7_feeOf : (zX7_feeOf).1.cls ≠ "java/lang/invoke/MethodHandle" ∧ (zX7_feeOf).1.cls ≠ "java/lang/invoke/VarHandle" ∧ (parseMethodDescriptor (zX7_feeOf).1.desc).map (fun d => d.parameters.length) = some 1 := by decide +kernel
abbrev zX7_fee : MI := (yX7_fee, cX7_fee, 2, (some .int))
theorem cz_X7_fee : wz zX7_fee ∈ lw_g := lw_g_in (i := 912) (by decide +kernel) rfl
theorem iz_X7_fee : Cond.instanceMethod yX7_fee ∈ lw_g := lw_g_in (i := 910) (by decide +kernel) rfl
theorem vz_X7_fee : Cond.selects RX7 yX7_fee yX7_fee ∈ lw_g := lw_g_in (i := 911) (by decide +kernel) rfl
theorem dz_X7_fee : (zX7_fee).1.cls ≠ "java/lang/invoke/MethodHandle" ∧ (zX7_fee).1.cls ≠ "java/lang/invoke/VarHandle" ∧ (parseMethodDescriptor (zX7_fee).1.desc).map (fun d => d.parameters.length) = some 1 := by decide +kernel
abbrev zX7_feesOf : MI := (yX7_feesOf, cX7_feesOf, 4, (some .int))
theorem cz_X7_feesOf : wz zX7_feesOf ∈ lw_g := lw_g_in (i := 924) (by decide +kernel) rfl
theorem iz_X7_feesOf : Cond.instanceMethod yX7_feesOf ∈ lw_g := lw_g_in (i := 923) (by decide +kernel) rfl
theorem vz_X7_feesOf : Cond.selects RX7 yX7_feesOf yX7_feesOf ∈ lw_g := lw_g_in (i := 50) (by decide +kernel) rfl
theorem dz_X7_feesOf : (zX7_feesOf).1.cls ≠ "java/lang/invoke/MethodHandle" ∧ (zX7_feesOf).1.cls ≠ "java/lang/invoke/VarHandle" ∧ (parseMethodDescriptor (zX7_feesOf).1.desc).map (fun d => d.parameters.length) = some 1 := by decide +kernel
abbrev zX7_income : MI := (yX7_income, cX7_income, 1, (some .int))
theorem cz_X7_income : wz zX7_income ∈ lw_g := lw_g_in (i := 920) (by decide +kernel) rfl
theorem iz_X7_income : Cond.instanceMethod yX7_income ∈ lw_g := lw_g_in (i := 918) (by decide +kernel) rfl
theorem vz_X7_income : Cond.selects RX7 yX7_income yX7_income ∈ lw_g := lw_g_in (i := 919) (by decide +kernel) rfl
theorem dz_X7_income : (zX7_income).1.cls ≠ "java/lang/invoke/MethodHandle" ∧ (zX7_income).1.cls ≠ "java/lang/invoke/VarHandle" ∧ (parseMethodDescriptor (zX7_income).1.desc).map (fun d => d.parameters.length) = some 0 := by decide +kernel
abbrev zX7_familyFeeIfAdmitted : MI := (yX7_familyFeeIfAdmitted, cX7_familyFeeIfAdmitted, 3, (some .int))
theorem cz_X7_familyFeeIfAdmitted : wz zX7_familyFeeIfAdmitted ∈ lw_g := lw_g_in (i := 928) (by decide +kernel) rfl
theorem iz_X7_familyFeeIfAdmitted : Cond.instanceMethod yX7_familyFeeIfAdmitted ∈ lw_g := lw_g_in (i := 926) (by decide +kernel) rfl
theorem vz_X7_familyFeeIfAdmitted : Cond.selects RX7 yX7_familyFeeIfAdmitted yX7_familyFeeIfAdmitted ∈ lw_g := lw_g_in (i := 927) (by decide +kernel) rfl
theorem dz_X7_familyFeeIfAdmitted : (zX7_familyFeeIfAdmitted).1.cls ≠ "java/lang/invoke/MethodHandle" ∧ (zX7_familyFeeIfAdmitted).1.cls ≠ "java/lang/invoke/VarHandle" ∧ (parseMethodDescriptor (zX7_familyFeeIfAdmitted).1.desc).map (fun d => d.parameters.length) = some 1 := by decide +kernel
abbrev zX7_addSubstitute : MI := (yX7_addSubstitute, cX7_addSubstitute, 4, (some .int))
theorem cz_X7_addSubstitute : wz zX7_addSubstitute ∈ lw_g := lw_g_in (i := 932) (by decide +kernel) rfl
theorem iz_X7_addSubstitute : Cond.instanceMethod yX7_addSubstitute ∈ lw_g := lw_g_in (i := 930) (by decide +kernel) rfl
theorem vz_X7_addSubstitute : Cond.selects RX7 yX7_addSubstitute yX7_addSubstitute ∈ lw_g := lw_g_in (i := 931) (by decide +kernel) rfl
theorem dz_X7_addSubstitute : (zX7_addSubstitute).1.cls ≠ "java/lang/invoke/MethodHandle" ∧ (zX7_addSubstitute).1.cls ≠ "java/lang/invoke/VarHandle" ∧ (parseMethodDescriptor (zX7_addSubstitute).1.desc).map (fun d => d.parameters.length) = some 3 := by decide +kernel
abbrev zX7_shortageOf : MI := (yX7_shortageOf, cX7_shortageOf, 8, (some .int))
theorem cz_X7_shortageOf : wz zX7_shortageOf ∈ lw_g := lw_g_in (i := 940) (by decide +kernel) rfl
theorem iz_X7_shortageOf : Cond.instanceMethod yX7_shortageOf ∈ lw_g := lw_g_in (i := 939) (by decide +kernel) rfl
theorem vz_X7_shortageOf : Cond.selects RX7 yX7_shortageOf yX7_shortageOf ∈ lw_g := lw_g_in (i := 51) (by decide +kernel) rfl
theorem dz_X7_shortageOf : (zX7_shortageOf).1.cls ≠ "java/lang/invoke/MethodHandle" ∧ (zX7_shortageOf).1.cls ≠ "java/lang/invoke/VarHandle" ∧ (parseMethodDescriptor (zX7_shortageOf).1.desc).map (fun d => d.parameters.length) = some 2 := by decide +kernel
abbrev zX7_shortage : MI := (yX7_shortage, cX7_shortage, 3, (some .int))
theorem cz_X7_shortage : wz zX7_shortage ∈ lw_g := lw_g_in (i := 936) (by decide +kernel) rfl
theorem iz_X7_shortage : Cond.instanceMethod yX7_shortage ∈ lw_g := lw_g_in (i := 934) (by decide +kernel) rfl
theorem vz_X7_shortage : Cond.selects RX7 yX7_shortage yX7_shortage ∈ lw_g := lw_g_in (i := 935) (by decide +kernel) rfl
theorem dz_X7_shortage : (zX7_shortage).1.cls ≠ "java/lang/invoke/MethodHandle" ∧ (zX7_shortage).1.cls ≠ "java/lang/invoke/VarHandle" ∧ (parseMethodDescriptor (zX7_shortage).1.desc).map (fun d => d.parameters.length) = some 2 := by decide +kernel
abbrev zX7_power : MI := (yX7_power, cX7_power, 1, (some .int))
theorem cz_X7_power : wz zX7_power ∈ lw_g := lw_g_in (i := 956) (by decide +kernel) rfl
theorem sz_X7_power : Cond.static yX7_power ∈ lw_g := lw_g_in (i := 955) (by decide +kernel) rfl
theorem dz_X7_power : (zX7_power).1.cls ≠ "java/lang/invoke/MethodHandle" ∧ (zX7_power).1.cls ≠ "java/lang/invoke/VarHandle" ∧ (parseMethodDescriptor (zX7_power).1.desc).map (fun d => d.parameters.length) = some 1 := by decide +kernel
abbrev zX7_canBeGiven : MI := (yX7_canBeGiven, cX7_canBeGiven, 8, (some .boolean))
theorem cz_X7_canBeGiven : wz zX7_canBeGiven ∈ lw_g := lw_g_in (i := 953) (by decide +kernel) rfl
theorem iz_X7_canBeGiven : Cond.instanceMethod yX7_canBeGiven ∈ lw_g := lw_g_in (i := 952) (by decide +kernel) rfl
theorem vz_X7_canBeGiven : Cond.selects RX7 yX7_canBeGiven yX7_canBeGiven ∈ lw_g := lw_g_in (i := 53) (by decide +kernel) rfl
theorem dz_X7_canBeGiven : (zX7_canBeGiven).1.cls ≠ "java/lang/invoke/MethodHandle" ∧ (zX7_canBeGiven).1.cls ≠ "java/lang/invoke/VarHandle" ∧ (parseMethodDescriptor (zX7_canBeGiven).1.desc).map (fun d => d.parameters.length) = some 4 := by decide +kernel
abbrev zX7_costWith : MI := (yX7_costWith, cX7_costWith, 7, (some .int))
theorem cz_X7_costWith : wz zX7_costWith ∈ lw_g := lw_g_in (i := 960) (by decide +kernel) rfl
theorem iz_X7_costWith : Cond.instanceMethod yX7_costWith ∈ lw_g := lw_g_in (i := 959) (by decide +kernel) rfl
theorem vz_X7_costWith : Cond.selects RX7 yX7_costWith yX7_costWith ∈ lw_g := lw_g_in (i := 54) (by decide +kernel) rfl
theorem dz_X7_costWith : (zX7_costWith).1.cls ≠ "java/lang/invoke/MethodHandle" ∧ (zX7_costWith).1.cls ≠ "java/lang/invoke/VarHandle" ∧ (parseMethodDescriptor (zX7_costWith).1.desc).map (fun d => d.parameters.length) = some 3 := by decide +kernel
abbrev zX7_findCosts : MI := (yX7_findCosts, cX7_findCosts, 8, (some .int))
theorem cz_X7_findCosts : wz zX7_findCosts ∈ lw_g := lw_g_in (i := 948) (by decide +kernel) rfl
theorem iz_X7_findCosts : Cond.instanceMethod yX7_findCosts ∈ lw_g := lw_g_in (i := 947) (by decide +kernel) rfl
theorem vz_X7_findCosts : Cond.selects RX7 yX7_findCosts yX7_findCosts ∈ lw_g := lw_g_in (i := 52) (by decide +kernel) rfl
theorem dz_X7_findCosts : (zX7_findCosts).1.cls ≠ "java/lang/invoke/MethodHandle" ∧ (zX7_findCosts).1.cls ≠ "java/lang/invoke/VarHandle" ∧ (parseMethodDescriptor (zX7_findCosts).1.desc).map (fun d => d.parameters.length) = some 1 := by decide +kernel
abbrev zX7_cover : MI := (yX7_cover, cX7_cover, 8, (some .int))
theorem cz_X7_cover : wz zX7_cover ∈ lw_g := lw_g_in (i := 944) (by decide +kernel) rfl
theorem iz_X7_cover : Cond.instanceMethod yX7_cover ∈ lw_g := lw_g_in (i := 942) (by decide +kernel) rfl
theorem vz_X7_cover : Cond.selects RX7 yX7_cover yX7_cover ∈ lw_g := lw_g_in (i := 943) (by decide +kernel) rfl
theorem dz_X7_cover : (zX7_cover).1.cls ≠ "java/lang/invoke/MethodHandle" ∧ (zX7_cover).1.cls ≠ "java/lang/invoke/VarHandle" ∧ (parseMethodDescriptor (zX7_cover).1.desc).map (fun d => d.parameters.length) = some 1 := by decide +kernel
abbrev zX7_coverOf : MI := (yX7_coverOf, cX7_coverOf, 2, (some .int))
theorem cz_X7_coverOf : wz zX7_coverOf ∈ lw_g := lw_g_in (i := 964) (by decide +kernel) rfl
theorem iz_X7_coverOf : Cond.instanceMethod yX7_coverOf ∈ lw_g := lw_g_in (i := 962) (by decide +kernel) rfl
theorem vz_X7_coverOf : Cond.selects RX7 yX7_coverOf yX7_coverOf ∈ lw_g := lw_g_in (i := 963) (by decide +kernel) rfl
theorem dz_X7_coverOf : (zX7_coverOf).1.cls ≠ "java/lang/invoke/MethodHandle" ∧ (zX7_coverOf).1.cls ≠ "java/lang/invoke/VarHandle" ∧ (parseMethodDescriptor (zX7_coverOf).1.desc).map (fun d => d.parameters.length) = some 1 := by decide +kernel
abbrev zX7_cheapestHoliday : MI := (yX7_cheapestHoliday, cX7_cheapestHoliday, 6, (some .int))
theorem cz_X7_cheapestHoliday : wz zX7_cheapestHoliday ∈ lw_g := lw_g_in (i := 968) (by decide +kernel) rfl
theorem iz_X7_cheapestHoliday : Cond.instanceMethod yX7_cheapestHoliday ∈ lw_g := lw_g_in (i := 966) (by decide +kernel) rfl
theorem vz_X7_cheapestHoliday : Cond.selects RX7 yX7_cheapestHoliday yX7_cheapestHoliday ∈ lw_g := lw_g_in (i := 967) (by decide +kernel) rfl
theorem dz_X7_cheapestHoliday : (zX7_cheapestHoliday).1.cls ≠ "java/lang/invoke/MethodHandle" ∧ (zX7_cheapestHoliday).1.cls ≠ "java/lang/invoke/VarHandle" ∧ (parseMethodDescriptor (zX7_cheapestHoliday).1.desc).map (fun d => d.parameters.length) = some 1 := by decide +kernel
abbrev zX7_type : MI := (yX7_type, cX7_type, 2, (some .int))
theorem cz_X7_type : wz zX7_type ∈ lw_g := lw_g_in (i := 972) (by decide +kernel) rfl
theorem iz_X7_type : Cond.instanceMethod yX7_type ∈ lw_g := lw_g_in (i := 970) (by decide +kernel) rfl
theorem vz_X7_type : Cond.selects RX7 yX7_type yX7_type ∈ lw_g := lw_g_in (i := 971) (by decide +kernel) rfl
theorem dz_X7_type : (zX7_type).1.cls ≠ "java/lang/invoke/MethodHandle" ∧ (zX7_type).1.cls ≠ "java/lang/invoke/VarHandle" ∧ (parseMethodDescriptor (zX7_type).1.desc).map (fun d => d.parameters.length) = some 1 := by decide +kernel
abbrev zX7_clearText : MI := (yX7_clearText, cX7_clearText, 2, (some .int))
theorem cz_X7_clearText : wz zX7_clearText ∈ lw_g := lw_g_in (i := 976) (by decide +kernel) rfl
theorem iz_X7_clearText : Cond.instanceMethod yX7_clearText ∈ lw_g := lw_g_in (i := 974) (by decide +kernel) rfl
theorem vz_X7_clearText : Cond.selects RX7 yX7_clearText yX7_clearText ∈ lw_g := lw_g_in (i := 975) (by decide +kernel) rfl
theorem dz_X7_clearText : (zX7_clearText).1.cls ≠ "java/lang/invoke/MethodHandle" ∧ (zX7_clearText).1.cls ≠ "java/lang/invoke/VarHandle" ∧ (parseMethodDescriptor (zX7_clearText).1.desc).map (fun d => d.parameters.length) = some 0 := by decide +kernel
abbrev zX7_character : MI := (yX7_character, cX7_character, 3, (some .int))
theorem cz_X7_character : wz zX7_character ∈ lw_g := lw_g_in (i := 988) (by decide +kernel) rfl
theorem iz_X7_character : Cond.instanceMethod yX7_character ∈ lw_g := lw_g_in (i := 987) (by decide +kernel) rfl
theorem vz_X7_character : Cond.selects RX7 yX7_character yX7_character ∈ lw_g := lw_g_in (i := 56) (by decide +kernel) rfl
theorem dz_X7_character : (zX7_character).1.cls ≠ "java/lang/invoke/MethodHandle" ∧ (zX7_character).1.cls ≠ "java/lang/invoke/VarHandle" ∧ (parseMethodDescriptor (zX7_character).1.desc).map (fun d => d.parameters.length) = some 2 := by decide +kernel
abbrev zX7_readText : MI := (yX7_readText, cX7_readText, 6, (some .int))
theorem cz_X7_readText : wz zX7_readText ∈ lw_g := lw_g_in (i := 984) (by decide +kernel) rfl
theorem iz_X7_readText : Cond.instanceMethod yX7_readText ∈ lw_g := lw_g_in (i := 983) (by decide +kernel) rfl
theorem vz_X7_readText : Cond.selects RX7 yX7_readText yX7_readText ∈ lw_g := lw_g_in (i := 55) (by decide +kernel) rfl
theorem dz_X7_readText : (zX7_readText).1.cls ≠ "java/lang/invoke/MethodHandle" ∧ (zX7_readText).1.cls ≠ "java/lang/invoke/VarHandle" ∧ (parseMethodDescriptor (zX7_readText).1.desc).map (fun d => d.parameters.length) = some 0 := by decide +kernel
abbrev zX7_loadBookings : MI := (yX7_loadBookings, cX7_loadBookings, 5, (some .int))
theorem cz_X7_loadBookings : wz zX7_loadBookings ∈ lw_g := lw_g_in (i := 980) (by decide +kernel) rfl
theorem iz_X7_loadBookings : Cond.instanceMethod yX7_loadBookings ∈ lw_g := lw_g_in (i := 978) (by decide +kernel) rfl
theorem vz_X7_loadBookings : Cond.selects RX7 yX7_loadBookings yX7_loadBookings ∈ lw_g := lw_g_in (i := 979) (by decide +kernel) rfl
theorem dz_X7_loadBookings : (zX7_loadBookings).1.cls ≠ "java/lang/invoke/MethodHandle" ∧ (zX7_loadBookings).1.cls ≠ "java/lang/invoke/VarHandle" ∧ (parseMethodDescriptor (zX7_loadBookings).1.desc).map (fun d => d.parameters.length) = some 1 := by decide +kernel
abbrev zX7_digest : MI := (yX7_digest, cX7_digest, 5, (some .long))
theorem cz_X7_digest : wz zX7_digest ∈ lw_g := lw_g_in (i := 992) (by decide +kernel) rfl
theorem iz_X7_digest : Cond.instanceMethod yX7_digest ∈ lw_g := lw_g_in (i := 990) (by decide +kernel) rfl
theorem vz_X7_digest : Cond.selects RX7 yX7_digest yX7_digest ∈ lw_g := lw_g_in (i := 991) (by decide +kernel) rfl
theorem dz_X7_digest : (zX7_digest).1.cls ≠ "java/lang/invoke/MethodHandle" ∧ (zX7_digest).1.cls ≠ "java/lang/invoke/VarHandle" ∧ (parseMethodDescriptor (zX7_digest).1.desc).map (fun d => d.parameters.length) = some 0 := by decide +kernel
abbrev zJ6_bitCount_0f7a4 : MI := (yJ6_bitCount_0f7a4, cJ6_bitCount_0f7a4, 1, (some .int))
theorem cz_J6_bitCount_0f7a4 : wz zJ6_bitCount_0f7a4 ∈ lw_g := lw_g_in (i := 559) (by decide +kernel) rfl
theorem sz_J6_bitCount_0f7a4 : Cond.static yJ6_bitCount_0f7a4 ∈ lw_g := lw_g_in (i := 558) (by decide +kernel) rfl
theorem dz_J6_bitCount_0f7a4 : (zJ6_bitCount_0f7a4).1.cls ≠ "java/lang/invoke/MethodHandle" ∧ (zJ6_bitCount_0f7a4).1.cls ≠ "java/lang/invoke/VarHandle" ∧ (parseMethodDescriptor (zJ6_bitCount_0f7a4).1.desc).map (fun d => d.parameters.length) = some 1 := by decide +kernel
abbrev zJ13_bitCount_95d88 : MI := (yJ13_bitCount_95d88, cJ13_bitCount_95d88, 2, (some .int))
theorem cz_J13_bitCount_95d88 : wz zJ13_bitCount_95d88 ∈ lw_g := lw_g_in (i := 238) (by decide +kernel) rfl
theorem sz_J13_bitCount_95d88 : Cond.static yJ13_bitCount_95d88 ∈ lw_g := lw_g_in (i := 237) (by decide +kernel) rfl
theorem dz_J13_bitCount_95d88 : (zJ13_bitCount_95d88).1.cls ≠ "java/lang/invoke/MethodHandle" ∧ (zJ13_bitCount_95d88).1.cls ≠ "java/lang/invoke/VarHandle" ∧ (parseMethodDescriptor (zJ13_bitCount_95d88).1.desc).map (fun d => d.parameters.length) = some 1 := by decide +kernel
abbrev zJ9_max_7cf53 : MI := (yJ9_max_7cf53, cJ9_max_7cf53, 2, (some .int))
theorem cz_J9_max_7cf53 : wz zJ9_max_7cf53 ∈ lw_g := lw_g_in (i := 531) (by decide +kernel) rfl
theorem sz_J9_max_7cf53 : Cond.static yJ9_max_7cf53 ∈ lw_g := lw_g_in (i := 530) (by decide +kernel) rfl
theorem dz_J9_max_7cf53 : (zJ9_max_7cf53).1.cls ≠ "java/lang/invoke/MethodHandle" ∧ (zJ9_max_7cf53).1.cls ≠ "java/lang/invoke/VarHandle" ∧ (parseMethodDescriptor (zJ9_max_7cf53).1.desc).map (fun d => d.parameters.length) = some 2 := by decide +kernel
theorem in_X0 : Cond.initialized RX0 ∈ lw_g := lw_g_in (i := 63) (by decide +kernel) rfl
theorem in_X1 : Cond.initialized RX1 ∈ lw_g := lw_g_in (i := 60) (by decide +kernel) rfl
theorem in_X2 : Cond.initialized RX2 ∈ lw_g := lw_g_in (i := 65) (by decide +kernel) rfl
theorem in_X3 : Cond.initialized RX3 ∈ lw_g := lw_g_in (i := 61) (by decide +kernel) rfl
theorem in_X4 : Cond.initialized RX4 ∈ lw_g := lw_g_in (i := 59) (by decide +kernel) rfl
theorem in_X5 : Cond.initialized RX5 ∈ lw_g := lw_g_in (i := 66) (by decide +kernel) rfl
theorem in_X6 : Cond.initialized RX6 ∈ lw_g := lw_g_in (i := 58) (by decide +kernel) rfl
theorem in_X7 : Cond.initialized RX7 ∈ lw_g := lw_g_in (i := 62) (by decide +kernel) rfl
theorem in_J6 : Cond.initialized RJ6 ∈ lw_g := lw_g_in (i := 68) (by decide +kernel) rfl
theorem in_J13 : Cond.initialized RJ13 ∈ lw_g := lw_g_in (i := 64) (by decide +kernel) rfl
theorem in_J9 : Cond.initialized RJ9 ∈ lw_g := lw_g_in (i := 67) (by decide +kernel) rfl
theorem in_L : Cond.initialized RL ∈ lw_g := lw_g_in (i := 57) (by decide +kernel) rfl
theorem ly_X0 : ∀ w ∈ u_ws RX0 TX0 5, w ∈ lw_g := lays_in [196, 198, 200, 202, 204] (by decide +kernel) (by decide +kernel)
theorem ly_X1 : ∀ w ∈ u_ws RX1 TX1 6, w ∈ lw_g := lays_in [117, 119, 121, 123, 125, 127] (by decide +kernel) (by decide +kernel)
theorem ly_X2 : ∀ w ∈ u_ws RX2 TX2 2, w ∈ lw_g := lays_in [376, 378] (by decide +kernel) (by decide +kernel)
theorem ly_X3 : ∀ w ∈ u_ws RX3 TX3 1, w ∈ lw_g := lays_in [137] (by decide +kernel) (by decide +kernel)
theorem ly_X4 : ∀ w ∈ u_ws RX4 TX4 3, w ∈ lw_g := lays_in [92, 94, 96] (by decide +kernel) (by decide +kernel)
theorem ly_X5 : ∀ w ∈ u_ws RX5 TX5 4, w ∈ lw_g := lays_in [500, 502, 504, 506] (by decide +kernel) (by decide +kernel)
theorem ly_X6 : ∀ w ∈ u_ws RX6 TX6 12, w ∈ lw_g := lays_in [152, 154, 156, 158, 160, 162, 164, 166, 168, 170, 172, 174] (by decide +kernel) (by decide +kernel)
theorem ly_X7 : ∀ w ∈ u_ws RX7 TX7 25, w ∈ lw_g := lays_in [659, 661, 663, 665, 667, 669, 671, 673, 675, 677, 679, 681, 683, 685, 687, 689, 691, 693, 695, 697, 699, 701, 703, 705, 707] (by decide +kernel) (by decide +kernel)
theorem c_L_7 : Cond.classLink RL 7 RX6 ∈ lw_g := lw_g_in (i := 69) (by decide +kernel) rfl
theorem n_X6 : Cond.instantiable RX6 12 ∈ lw_g := lw_g_in (i := 70) (by decide +kernel) rfl
theorem c_X6_9 : Cond.classLink RX6 9 RX0 ∈ lw_g := lw_g_in (i := 77) (by decide +kernel) rfl
theorem ao_X0 : Cond.arrayOver (.object RX0) ∈ lw_tbl := List.mem_of_getElem? (i := 78) (by decide +kernel)
theorem c_X6_15 : Cond.classLink RX6 15 RX2 ∈ lw_g := lw_g_in (i := 79) (by decide +kernel) rfl
theorem ao_X2 : Cond.arrayOver (.object RX2) ∈ lw_tbl := List.mem_of_getElem? (i := 80) (by decide +kernel)
theorem c_X6_38 : Cond.classLink RX6 38 RX4 ∈ lw_g := lw_g_in (i := 81) (by decide +kernel) rfl
theorem n_X4 : Cond.instantiable RX4 3 ∈ lw_g := lw_g_in (i := 82) (by decide +kernel) rfl
theorem f_X4_9 : Cond.fieldLink RX4 9 RX4 "signs" "[C" ∈ lw_g := lw_g_in (i := 87) (by decide +kernel) rfl
theorem f_X4_15 : Cond.fieldLink RX4 15 RX4 "length" "I" ∈ lw_g := lw_g_in (i := 88) (by decide +kernel) rfl
theorem f_X6_272 : Cond.fieldLink RX6 272 RX4 "length" "I" ∈ lw_g := lw_g_in (i := 89) (by decide +kernel) rfl
theorem f_X4_19 : Cond.fieldLink RX4 19 RX4 "booked" "J" ∈ lw_g := lw_g_in (i := 90) (by decide +kernel) rfl
theorem f_X6_278 : Cond.fieldLink RX6 278 RX4 "booked" "J" ∈ lw_g := lw_g_in (i := 91) (by decide +kernel) rfl
theorem ac_int : Cond.arrayClass .int ∈ lw_g := lw_g_in (i := 99) (by decide +kernel) rfl
theorem ac_char : Cond.arrayClass .char ∈ lw_g := lw_g_in (i := 100) (by decide +kernel) rfl
theorem c_X6_45 : Cond.classLink RX6 45 RX1 ∈ lw_g := lw_g_in (i := 101) (by decide +kernel) rfl
theorem n_X1 : Cond.instantiable RX1 6 ∈ lw_g := lw_g_in (i := 102) (by decide +kernel) rfl
theorem c_X1_9 : Cond.classLink RX1 9 RX5 ∈ lw_g := lw_g_in (i := 107) (by decide +kernel) rfl
theorem ao_X5 : Cond.arrayOver (.object RX5) ∈ lw_tbl := List.mem_of_getElem? (i := 108) (by decide +kernel)
theorem f_X1_11 : Cond.fieldLink RX1 11 RX1 "substitutes" "[LKindergartenPlanner$Substitute;" ∈ lw_g := lw_g_in (i := 109) (by decide +kernel) rfl
theorem f_X1_27 : Cond.fieldLink RX1 27 RX1 "count" "I" ∈ lw_g := lw_g_in (i := 110) (by decide +kernel) rfl
theorem f_X1_17 : Cond.fieldLink RX1 17 RX1 "sets" "[I" ∈ lw_g := lw_g_in (i := 111) (by decide +kernel) rfl
theorem f_X1_34 : Cond.fieldLink RX1 34 RX1 "bestCost" "I" ∈ lw_g := lw_g_in (i := 112) (by decide +kernel) rfl
theorem f_X1_21 : Cond.fieldLink RX1 21 RX1 "shortages" "[I" ∈ lw_g := lw_g_in (i := 113) (by decide +kernel) rfl
theorem f_X6_263 : Cond.fieldLink RX6 263 RX1 "shortages" "[I" ∈ lw_g := lw_g_in (i := 114) (by decide +kernel) rfl
theorem f_X1_24 : Cond.fieldLink RX1 24 RX1 "bestSets" "[I" ∈ lw_g := lw_g_in (i := 115) (by decide +kernel) rfl
theorem f_X6_249 : Cond.fieldLink RX6 249 RX1 "bestSets" "[I" ∈ lw_g := lw_g_in (i := 116) (by decide +kernel) rfl
theorem c_X6_52 : Cond.classLink RX6 52 RX3 ∈ lw_g := lw_g_in (i := 130) (by decide +kernel) rfl
theorem n_X3 : Cond.instantiable RX3 1 ∈ lw_g := lw_g_in (i := 131) (by decide +kernel) rfl
theorem f_X3_9 : Cond.fieldLink RX3 9 RX3 "counts" "[I" ∈ lw_g := lw_g_in (i := 136) (by decide +kernel) rfl
theorem f_X6_11 : Cond.fieldLink RX6 11 RX6 "children" "[LKindergartenPlanner$Child;" ∈ lw_g := lw_g_in (i := 140) (by decide +kernel) rfl
theorem f_X6_17 : Cond.fieldLink RX6 17 RX6 "educators" "[LKindergartenPlanner$Educator;" ∈ lw_g := lw_g_in (i := 141) (by decide +kernel) rfl
theorem f_X6_21 : Cond.fieldLink RX6 21 RX6 "ratios" "[I" ∈ lw_g := lw_g_in (i := 142) (by decide +kernel) rfl
theorem f_X6_25 : Cond.fieldLink RX6 25 RX6 "rates" "[I" ∈ lw_g := lw_g_in (i := 143) (by decide +kernel) rfl
theorem f_X6_28 : Cond.fieldLink RX6 28 RX6 "roomLimit" "I" ∈ lw_g := lw_g_in (i := 144) (by decide +kernel) rfl
theorem f_X6_32 : Cond.fieldLink RX6 32 RX6 "month" "I" ∈ lw_g := lw_g_in (i := 145) (by decide +kernel) rfl
theorem f_X6_35 : Cond.fieldLink RX6 35 RX6 "keptCover" "[I" ∈ lw_g := lw_g_in (i := 146) (by decide +kernel) rfl
theorem f_X6_41 : Cond.fieldLink RX6 41 RX6 "sheet" "LKindergartenPlanner$Sheet;" ∈ lw_g := lw_g_in (i := 147) (by decide +kernel) rfl
theorem f_X6_48 : Cond.fieldLink RX6 48 RX6 "search" "LKindergartenPlanner$CoverSearch;" ∈ lw_g := lw_g_in (i := 148) (by decide +kernel) rfl
theorem f_X6_55 : Cond.fieldLink RX6 55 RX6 "heads" "LKindergartenPlanner$Headcount;" ∈ lw_g := lw_g_in (i := 149) (by decide +kernel) rfl
theorem f_X6_59 : Cond.fieldLink RX6 59 RX6 "priorities" "[I" ∈ lw_g := lw_g_in (i := 150) (by decide +kernel) rfl
theorem f_X6_62 : Cond.fieldLink RX6 62 RX6 "needs" "[I" ∈ lw_g := lw_g_in (i := 151) (by decide +kernel) rfl
theorem n_X0 : Cond.instantiable RX0 5 ∈ lw_g := lw_g_in (i := 181) (by decide +kernel) rfl
theorem f_X0_13 : Cond.fieldLink RX0 13 RX0 "family" "I" ∈ lw_g := lw_g_in (i := 186) (by decide +kernel) rfl
theorem f_X6_132 : Cond.fieldLink RX6 132 RX0 "family" "I" ∈ lw_g := lw_g_in (i := 187) (by decide +kernel) rfl
theorem f_X0_7 : Cond.fieldLink RX0 7 RX0 "months" "I" ∈ lw_g := lw_g_in (i := 188) (by decide +kernel) rfl
theorem f_X6_75 : Cond.fieldLink RX6 75 RX0 "months" "I" ∈ lw_g := lw_g_in (i := 189) (by decide +kernel) rfl
theorem f_X0_30 : Cond.fieldLink RX0 30 RX0 "monthsWaited" "I" ∈ lw_g := lw_g_in (i := 190) (by decide +kernel) rfl
theorem f_X6_114 : Cond.fieldLink RX6 114 RX0 "monthsWaited" "I" ∈ lw_g := lw_g_in (i := 191) (by decide +kernel) rfl
theorem f_X0_26 : Cond.fieldLink RX0 26 RX0 "admitted" "Z" ∈ lw_g := lw_g_in (i := 192) (by decide +kernel) rfl
theorem f_X6_78 : Cond.fieldLink RX6 78 RX0 "admitted" "Z" ∈ lw_g := lw_g_in (i := 193) (by decide +kernel) rfl
theorem f_X0_16 : Cond.fieldLink RX0 16 RX0 "booked" "J" ∈ lw_g := lw_g_in (i := 194) (by decide +kernel) rfl
theorem f_X6_93 : Cond.fieldLink RX6 93 RX0 "booked" "J" ∈ lw_g := lw_g_in (i := 195) (by decide +kernel) rfl
theorem k_J13_314 : Cond.constantLong RJ13 314 6148914691236517205 ∈ lw_g := lw_g_in (i := 239) (by decide +kernel) rfl
theorem k_J13_316 : Cond.constantLong RJ13 316 3689348814741910323 ∈ lw_g := lw_g_in (i := 240) (by decide +kernel) rfl
theorem k_J13_318 : Cond.constantLong RJ13 318 1085102592571150095 ∈ lw_g := lw_g_in (i := 241) (by decide +kernel) rfl
theorem k_X6_108 : Cond.constantLong RX6 108 (-1) ∈ lw_g := lw_g_in (i := 261) (by decide +kernel) rfl
theorem n_X2 : Cond.instantiable RX2 2 ∈ lw_g := lw_g_in (i := 368) (by decide +kernel) rfl
theorem f_X6_153 : Cond.fieldLink RX6 153 RX2 "working" "J" ∈ lw_g := lw_g_in (i := 373) (by decide +kernel) rfl
theorem f_X2_7 : Cond.fieldLink RX2 7 RX2 "holidays" "J" ∈ lw_g := lw_g_in (i := 374) (by decide +kernel) rfl
theorem f_X6_165 : Cond.fieldLink RX6 165 RX2 "holidays" "J" ∈ lw_g := lw_g_in (i := 375) (by decide +kernel) rfl
theorem k_X6_194 : Cond.constantDouble RX6 194 13830554455654793216 ∈ lw_g := lw_g_in (i := 442) (by decide +kernel) rfl
theorem n_X5 : Cond.instantiable RX5 4 ∈ lw_g := lw_g_in (i := 489) (by decide +kernel) rfl
theorem f_X5_7 : Cond.fieldLink RX5 7 RX5 "days" "I" ∈ lw_g := lw_g_in (i := 494) (by decide +kernel) rfl
theorem f_X5_13 : Cond.fieldLink RX5 13 RX5 "most" "I" ∈ lw_g := lw_g_in (i := 495) (by decide +kernel) rfl
theorem f_X5_16 : Cond.fieldLink RX5 16 RX5 "wage" "I" ∈ lw_g := lw_g_in (i := 496) (by decide +kernel) rfl
theorem f_X1_75 : Cond.fieldLink RX1 75 RX5 "wage" "I" ∈ lw_g := lw_g_in (i := 497) (by decide +kernel) rfl
theorem f_X5_19 : Cond.fieldLink RX5 19 RX5 "given" "I" ∈ lw_g := lw_g_in (i := 498) (by decide +kernel) rfl
theorem f_X1_72 : Cond.fieldLink RX1 72 RX5 "given" "I" ∈ lw_g := lw_g_in (i := 499) (by decide +kernel) rfl
theorem k_X6_245 : Cond.constant RX6 245 1000000 ∈ lw_g := lw_g_in (i := 536) (by decide +kernel) rfl
theorem k_J6_265 : Cond.constant RJ6 265 1431655765 ∈ lw_g := lw_g_in (i := 560) (by decide +kernel) rfl
theorem k_J6_266 : Cond.constant RJ6 266 858993459 ∈ lw_g := lw_g_in (i := 561) (by decide +kernel) rfl
theorem k_J6_267 : Cond.constant RJ6 267 252645135 ∈ lw_g := lw_g_in (i := 562) (by decide +kernel) rfl
theorem k_X6_279 : Cond.constantLong RX6 279 43081 ∈ lw_g := lw_g_in (i := 611) (by decide +kernel) rfl
theorem k_X6_304 : Cond.constantLong RX6 304 31 ∈ lw_g := lw_g_in (i := 615) (by decide +kernel) rfl
theorem c_L_10 : Cond.classLink RL 10 RX7 ∈ lw_g := lw_g_in (i := 628) (by decide +kernel) rfl
theorem n_X7 : Cond.instantiable RX7 25 ∈ lw_g := lw_g_in (i := 629) (by decide +kernel) rfl
theorem f_X7_127 : Cond.fieldLink RX7 127 RX7 "month" "I" ∈ lw_g := lw_g_in (i := 634) (by decide +kernel) rfl
theorem f_X7_7 : Cond.fieldLink RX7 7 RX7 "isChild" "[I" ∈ lw_g := lw_g_in (i := 635) (by decide +kernel) rfl
theorem f_X7_13 : Cond.fieldLink RX7 13 RX7 "ageOf" "[I" ∈ lw_g := lw_g_in (i := 636) (by decide +kernel) rfl
theorem f_X7_16 : Cond.fieldLink RX7 16 RX7 "family" "[I" ∈ lw_g := lw_g_in (i := 637) (by decide +kernel) rfl
theorem f_X7_19 : Cond.fieldLink RX7 19 RX7 "admitted" "[I" ∈ lw_g := lw_g_in (i := 638) (by decide +kernel) rfl
theorem f_X7_22 : Cond.fieldLink RX7 22 RX7 "months" "[I" ∈ lw_g := lw_g_in (i := 639) (by decide +kernel) rfl
theorem f_X7_25 : Cond.fieldLink RX7 25 RX7 "begins" "[I" ∈ lw_g := lw_g_in (i := 640) (by decide +kernel) rfl
theorem f_X7_28 : Cond.fieldLink RX7 28 RX7 "ends" "[I" ∈ lw_g := lw_g_in (i := 641) (by decide +kernel) rfl
theorem f_X7_31 : Cond.fieldLink RX7 31 RX7 "isEducator" "[I" ∈ lw_g := lw_g_in (i := 642) (by decide +kernel) rfl
theorem f_X7_34 : Cond.fieldLink RX7 34 RX7 "workBegins" "[I" ∈ lw_g := lw_g_in (i := 643) (by decide +kernel) rfl
theorem f_X7_37 : Cond.fieldLink RX7 37 RX7 "workEnds" "[I" ∈ lw_g := lw_g_in (i := 644) (by decide +kernel) rfl
theorem f_X7_40 : Cond.fieldLink RX7 40 RX7 "holidays" "[I" ∈ lw_g := lw_g_in (i := 645) (by decide +kernel) rfl
theorem f_X7_43 : Cond.fieldLink RX7 43 RX7 "ratios" "[I" ∈ lw_g := lw_g_in (i := 646) (by decide +kernel) rfl
theorem f_X7_46 : Cond.fieldLink RX7 46 RX7 "rates" "[I" ∈ lw_g := lw_g_in (i := 647) (by decide +kernel) rfl
theorem f_X7_49 : Cond.fieldLink RX7 49 RX7 "roomLimit" "I" ∈ lw_g := lw_g_in (i := 648) (by decide +kernel) rfl
theorem f_X7_171 : Cond.fieldLink RX7 171 RX7 "substitutes" "I" ∈ lw_g := lw_g_in (i := 649) (by decide +kernel) rfl
theorem f_X7_53 : Cond.fieldLink RX7 53 RX7 "available" "[I" ∈ lw_g := lw_g_in (i := 650) (by decide +kernel) rfl
theorem f_X7_56 : Cond.fieldLink RX7 56 RX7 "mostDays" "[I" ∈ lw_g := lw_g_in (i := 651) (by decide +kernel) rfl
theorem f_X7_59 : Cond.fieldLink RX7 59 RX7 "wages" "[I" ∈ lw_g := lw_g_in (i := 652) (by decide +kernel) rfl
theorem f_X7_62 : Cond.fieldLink RX7 62 RX7 "kept" "[I" ∈ lw_g := lw_g_in (i := 653) (by decide +kernel) rfl
theorem f_X7_65 : Cond.fieldLink RX7 65 RX7 "text" "[I" ∈ lw_g := lw_g_in (i := 654) (by decide +kernel) rfl
theorem f_X7_190 : Cond.fieldLink RX7 190 RX7 "textLength" "I" ∈ lw_g := lw_g_in (i := 655) (by decide +kernel) rfl
theorem f_X7_68 : Cond.fieldLink RX7 68 RX7 "readBegins" "[I" ∈ lw_g := lw_g_in (i := 656) (by decide +kernel) rfl
theorem f_X7_71 : Cond.fieldLink RX7 71 RX7 "readEnds" "[I" ∈ lw_g := lw_g_in (i := 657) (by decide +kernel) rfl
theorem f_X7_74 : Cond.fieldLink RX7 74 RX7 "costs" "[I" ∈ lw_g := lw_g_in (i := 658) (by decide +kernel) rfl
theorem k_X7_163 : Cond.constantDouble RX7 163 13830554455654793216 ∈ lw_g := lw_g_in (i := 904) (by decide +kernel) rfl
theorem k_X7_180 : Cond.constant RX7 180 1000000 ∈ lw_g := lw_g_in (i := 949) (by decide +kernel) rfl
theorem k_X7_199 : Cond.constantLong RX7 199 1335511 ∈ lw_g := lw_g_in (i := 993) (by decide +kernel) rfl
theorem k_X7_201 : Cond.constantLong RX7 201 31 ∈ lw_g := lw_g_in (i := 994) (by decide +kernel) rfl
theorem oi_i : Cond.instanceMethod objectInit ∈ lw_g := lw_g_in (i := 75) (by decide +kernel) rfl
theorem oi_c : Cond.code objectInit ⟨#[0xb1]⟩ 1 none ∈ lw_g := lw_g_in (i := 76) (by decide +kernel) rfl
theorem m_L_9 : CwI RL 9 0 zX6_init := ⟨lw_g_in (i := 71) (by decide +kernel) rfl, iz_X6_init, in_X6, cz_X6_init, dz_X6_init, rfl, rfl⟩
theorem ol_X6 : Cond.methodLink RX6 3 objectInit ∈ lw_g := lw_g_in (i := 74) (by decide +kernel) rfl
theorem m_X6_40 : CwIN RX6 40 0 zX4_init RX6 := ⟨lw_n_in (i := 83) (by decide +kernel) rfl, iz_X4_init, in_X4, cz_X4_init, dz_X4_init, rfl, rfl⟩
theorem ol_X4 : Cond.methodLink RX4 3 objectInit ∈ lw_g := lw_g_in (i := 86) (by decide +kernel) rfl
theorem m_X6_47 : CwIN RX6 47 0 zX1_init RX6 := ⟨lw_n_in (i := 103) (by decide +kernel) rfl, iz_X1_init, in_X1, cz_X1_init, dz_X1_init, rfl, rfl⟩
theorem ol_X1 : Cond.methodLink RX1 3 objectInit ∈ lw_g := lw_g_in (i := 106) (by decide +kernel) rfl
theorem m_X6_54 : CwIN RX6 54 0 zX3_init RX6 := ⟨lw_n_in (i := 132) (by decide +kernel) rfl, iz_X3_init, in_X3, cz_X3_init, dz_X3_init, rfl, rfl⟩
theorem ol_X3 : Cond.methodLink RX3 3 objectInit ∈ lw_g := lw_g_in (i := 135) (by decide +kernel) rfl
theorem m_L_13 : CwV RL 13 2 zX6_addChild := ⟨lw_g_in (i := 177) (by decide +kernel) rfl, iz_X6_addChild, vz_X6_addChild, in_X6, cz_X6_addChild, dz_X6_addChild⟩
theorem m_X6_65 : CwI RX6 65 2 zX0_init := ⟨lw_g_in (i := 182) (by decide +kernel) rfl, iz_X0_init, in_X0, cz_X0_init, dz_X0_init, rfl, rfl⟩
theorem ol_X0 : Cond.methodLink RX0 1 objectInit ∈ lw_g := lw_g_in (i := 185) (by decide +kernel) rfl
theorem m_L_18 : CwV RL 18 1 zX6_removeChild := ⟨lw_g_in (i := 207) (by decide +kernel) rfl, iz_X6_removeChild, vz_X6_removeChild, in_X6, cz_X6_removeChild, dz_X6_removeChild⟩
theorem m_X6_68 : CwV RX6 68 1 zX6_childAt := ⟨lw_g_in (i := 211) (by decide +kernel) rfl, iz_X6_childAt, vz_X6_childAt, in_X6, cz_X6_childAt, dz_X6_childAt⟩
theorem m_X6_72 : CwV RX6 72 0 zX6_children := ⟨lw_g_in (i := 215) (by decide +kernel) rfl, iz_X6_children, vz_X6_children, in_X6, cz_X6_children, dz_X6_children⟩
theorem m_L_23 : CwV RL 23 0 zX6_children := ⟨lw_g_in (i := 219) (by decide +kernel) rfl, iz_X6_children, vz_X6_children, in_X6, cz_X6_children, dz_X6_children⟩
theorem m_L_28 : CwV RL 28 1 zX6_age := ⟨lw_g_in (i := 220) (by decide +kernel) rfl, iz_X6_age, vz_X6_age, in_X6, cz_X6_age, dz_X6_age⟩
theorem m_L_32 : CwV RL 32 1 zX6_isAdmitted := ⟨lw_g_in (i := 224) (by decide +kernel) rfl, iz_X6_isAdmitted, vz_X6_isAdmitted, in_X6, cz_X6_isAdmitted, dz_X6_isAdmitted⟩
theorem m_L_36 : CwV RL 36 1 zX6_hours := ⟨lw_g_in (i := 228) (by decide +kernel) rfl, iz_X6_hours, vz_X6_hours, in_X6, cz_X6_hours, dz_X6_hours⟩
theorem m_X6_82 : CwV RX6 82 0 zX0_bookedHours := ⟨lw_g_in (i := 232) (by decide +kernel) rfl, iz_X0_bookedHours, vz_X0_bookedHours, in_X0, cz_X0_bookedHours, dz_X0_bookedHours⟩
theorem m_X0_20 : CwS RX0 20 1 zJ13_bitCount_95d88 := ⟨lw_g_in (i := 236) (by decide +kernel) rfl, sz_J13_bitCount_95d88, in_J13, cz_J13_bitCount_95d88, dz_J13_bitCount_95d88⟩
theorem m_L_40 : CwV RL 40 4 zX6_book := ⟨lw_g_in (i := 242) (by decide +kernel) rfl, iz_X6_book, vz_X6_book, in_X6, cz_X6_book, dz_X6_book⟩
theorem m_X6_85 : CwS RX6 85 1 zX6_isDay := ⟨lw_g_in (i := 246) (by decide +kernel) rfl, sz_X6_isDay, in_X6, cz_X6_isDay, dz_X6_isDay⟩
theorem m_X6_89 : CwS RX6 89 2 zX6_isSpan := ⟨lw_g_in (i := 249) (by decide +kernel) rfl, sz_X6_isSpan, in_X6, cz_X6_isSpan, dz_X6_isSpan⟩
theorem m_X6_97 : CwS RX6 97 4 zX6_withSpan := ⟨lw_g_in (i := 252) (by decide +kernel) rfl, sz_X6_withSpan, in_X6, cz_X6_withSpan, dz_X6_withSpan⟩
theorem m_X6_306 : CwS RX6 306 3 zX6_spanOf := ⟨lw_g_in (i := 255) (by decide +kernel) rfl, sz_X6_spanOf, in_X6, cz_X6_spanOf, dz_X6_spanOf⟩
theorem m_X6_174 : CwS RX6 174 2 zX6_hourOfWeek := ⟨lw_g_in (i := 258) (by decide +kernel) rfl, sz_X6_hourOfWeek, in_X6, cz_X6_hourOfWeek, dz_X6_hourOfWeek⟩
theorem m_X6_101 : CwV RX6 101 2 zX6_rebook := ⟨lw_g_in (i := 262) (by decide +kernel) rfl, iz_X6_rebook, vz_X6_rebook, in_X6, cz_X6_rebook, dz_X6_rebook⟩
theorem m_X6_110 : CwV RX6 110 2 zX6_areSafeWith := ⟨lw_g_in (i := 266) (by decide +kernel) rfl, iz_X6_areSafeWith, vz_X6_areSafeWith, in_X6, cz_X6_areSafeWith, dz_X6_areSafeWith⟩
theorem m_X6_205 : CwS RX6 205 2 zX6_hasHour := ⟨lw_g_in (i := 270) (by decide +kernel) rfl, sz_X6_hasHour, in_X6, cz_X6_hasHour, dz_X6_hasHour⟩
theorem m_X6_178 : CwV RX6 178 1 zX6_countHeads := ⟨lw_g_in (i := 273) (by decide +kernel) rfl, iz_X6_countHeads, vz_X6_countHeads, in_X6, cz_X6_countHeads, dz_X6_countHeads⟩
theorem m_X6_202 : CwV RX6 202 0 zX3_clear := ⟨lw_g_in (i := 277) (by decide +kernel) rfl, iz_X3_clear, vz_X3_clear, in_X3, cz_X3_clear, dz_X3_clear⟩
theorem m_X6_209 : CwV RX6 209 0 zX0_group := ⟨lw_g_in (i := 281) (by decide +kernel) rfl, iz_X0_group, vz_X0_group, in_X0, cz_X0_group, dz_X0_group⟩
theorem m_X6_212 : CwV RX6 212 1 zX3_add := ⟨lw_g_in (i := 285) (by decide +kernel) rfl, iz_X3_add, vz_X3_add, in_X3, cz_X3_add, dz_X3_add⟩
theorem m_X3_15 : CwSN RX3 15 1 zX6_isGroup RX6 := ⟨lw_n_in (i := 289) (by decide +kernel) rfl, sz_X6_isGroup, in_X6, cz_X6_isGroup, dz_X6_isGroup⟩
theorem m_X6_191 : CwV RX6 191 1 zX6_areHeadsSafe := ⟨lw_g_in (i := 292) (by decide +kernel) rfl, iz_X6_areHeadsSafe, vz_X6_areHeadsSafe, in_X6, cz_X6_areHeadsSafe, dz_X6_areHeadsSafe⟩
theorem m_X6_182 : CwV RX6 182 0 zX3_total := ⟨lw_g_in (i := 296) (by decide +kernel) rfl, iz_X3_total, vz_X3_total, in_X3, cz_X3_total, dz_X3_total⟩
theorem m_X6_215 : CwV RX6 215 3 zX3_needAt := ⟨lw_g_in (i := 300) (by decide +kernel) rfl, iz_X3_needAt, vz_X3_needAt, in_X3, cz_X3_needAt, dz_X3_needAt⟩
theorem m_X6_188 : CwV RX6 188 1 zX6_staffIn := ⟨lw_g_in (i := 304) (by decide +kernel) rfl, iz_X6_staffIn, vz_X6_staffIn, in_X6, cz_X6_staffIn, dz_X6_staffIn⟩
theorem m_L_45 : CwV RL 45 0 zX6_nextMonth := ⟨lw_g_in (i := 308) (by decide +kernel) rfl, iz_X6_nextMonth, vz_X6_nextMonth, in_X6, cz_X6_nextMonth, dz_X6_nextMonth⟩
theorem m_X6_105 : CwV RX6 105 0 zX0_growOlder := ⟨lw_g_in (i := 312) (by decide +kernel) rfl, iz_X0_growOlder, vz_X0_growOlder, in_X0, cz_X0_growOlder, dz_X0_growOlder⟩
theorem m_L_49 : CwV RL 49 1 zX6_waited := ⟨lw_g_in (i := 316) (by decide +kernel) rfl, iz_X6_waited, vz_X6_waited, in_X6, cz_X6_waited, dz_X6_waited⟩
theorem m_L_53 : CwV RL 53 1 zX6_points := ⟨lw_g_in (i := 320) (by decide +kernel) rfl, iz_X6_points, vz_X6_points, in_X6, cz_X6_points, dz_X6_points⟩
theorem m_X6_117 : CwV RX6 117 1 zX6_pointsOf := ⟨lw_g_in (i := 324) (by decide +kernel) rfl, iz_X6_pointsOf, vz_X6_pointsOf, in_X6, cz_X6_pointsOf, dz_X6_pointsOf⟩
theorem m_X6_135 : CwV RX6 135 1 zX6_hasAdmittedChild := ⟨lw_g_in (i := 328) (by decide +kernel) rfl, iz_X6_hasAdmittedChild, vz_X6_hasAdmittedChild, in_X6, cz_X6_hasAdmittedChild, dz_X6_hasAdmittedChild⟩
theorem m_L_57 : CwV RL 57 1 zX6_waiting := ⟨lw_g_in (i := 332) (by decide +kernel) rfl, iz_X6_waiting, vz_X6_waiting, in_X6, cz_X6_waiting, dz_X6_waiting⟩
theorem m_X6_121 : CwV RX6 121 0 zX6_notePriorities := ⟨lw_g_in (i := 336) (by decide +kernel) rfl, iz_X6_notePriorities, vz_X6_notePriorities, in_X6, cz_X6_notePriorities, dz_X6_notePriorities⟩
theorem m_X6_138 : CwV RX6 138 2 zX6_priorityOf := ⟨lw_g_in (i := 340) (by decide +kernel) rfl, iz_X6_priorityOf, vz_X6_priorityOf, in_X6, cz_X6_priorityOf, dz_X6_priorityOf⟩
theorem m_X6_124 : CwV RX6 124 1 zX6_countAbove := ⟨lw_g_in (i := 344) (by decide +kernel) rfl, iz_X6_countAbove, vz_X6_countAbove, in_X6, cz_X6_countAbove, dz_X6_countAbove⟩
theorem m_L_61 : CwV RL 61 0 zX6_admit := ⟨lw_g_in (i := 348) (by decide +kernel) rfl, iz_X6_admit, vz_X6_admit, in_X6, cz_X6_admit, dz_X6_admit⟩
theorem m_X6_128 : CwV RX6 128 0 zX6_firstThatCanBeAdmitted := ⟨lw_g_in (i := 352) (by decide +kernel) rfl, iz_X6_firstThatCanBeAdmitted, vz_X6_firstThatCanBeAdmitted, in_X6, cz_X6_firstThatCanBeAdmitted, dz_X6_firstThatCanBeAdmitted⟩
theorem m_X6_142 : CwV RX6 142 1 zX6_canBeAdmitted := ⟨lw_g_in (i := 356) (by decide +kernel) rfl, iz_X6_canBeAdmitted, vz_X6_canBeAdmitted, in_X6, cz_X6_canBeAdmitted, dz_X6_canBeAdmitted⟩
theorem m_L_65 : CwV RL 65 1 zX6_release := ⟨lw_g_in (i := 360) (by decide +kernel) rfl, iz_X6_release, vz_X6_release, in_X6, cz_X6_release, dz_X6_release⟩
theorem m_L_69 : CwV RL 69 0 zX6_addEducator := ⟨lw_g_in (i := 364) (by decide +kernel) rfl, iz_X6_addEducator, vz_X6_addEducator, in_X6, cz_X6_addEducator, dz_X6_addEducator⟩
theorem m_X6_146 : CwIN RX6 146 0 zX2_init RX6 := ⟨lw_n_in (i := 369) (by decide +kernel) rfl, iz_X2_init, in_X2, cz_X2_init, dz_X2_init, rfl, rfl⟩
theorem ol_X2 : Cond.methodLink RX2 1 objectInit ∈ lw_g := lw_g_in (i := 372) (by decide +kernel) rfl
theorem m_L_73 : CwV RL 73 1 zX6_removeEducator := ⟨lw_g_in (i := 381) (by decide +kernel) rfl, iz_X6_removeEducator, vz_X6_removeEducator, in_X6, cz_X6_removeEducator, dz_X6_removeEducator⟩
theorem m_X6_147 : CwV RX6 147 1 zX6_educatorAt := ⟨lw_g_in (i := 385) (by decide +kernel) rfl, iz_X6_educatorAt, vz_X6_educatorAt, in_X6, cz_X6_educatorAt, dz_X6_educatorAt⟩
theorem m_X6_151 : CwV RX6 151 0 zX6_educators := ⟨lw_g_in (i := 389) (by decide +kernel) rfl, iz_X6_educators, vz_X6_educators, in_X6, cz_X6_educators, dz_X6_educators⟩
theorem m_L_77 : CwV RL 77 0 zX6_educators := ⟨lw_g_in (i := 393) (by decide +kernel) rfl, iz_X6_educators, vz_X6_educators, in_X6, cz_X6_educators, dz_X6_educators⟩
theorem m_L_81 : CwV RL 81 4 zX6_work := ⟨lw_g_in (i := 394) (by decide +kernel) rfl, iz_X6_work, vz_X6_work, in_X6, cz_X6_work, dz_X6_work⟩
theorem m_X6_156 : CwS RX6 156 1 zJ13_bitCount_95d88 := ⟨lw_g_in (i := 398) (by decide +kernel) rfl, sz_J13_bitCount_95d88, in_J13, cz_J13_bitCount_95d88, dz_J13_bitCount_95d88⟩
theorem m_L_85 : CwV RL 85 3 zX6_setHoliday := ⟨lw_g_in (i := 399) (by decide +kernel) rfl, iz_X6_setHoliday, vz_X6_setHoliday, in_X6, cz_X6_setHoliday, dz_X6_setHoliday⟩
theorem m_X6_162 : CwS RX6 162 1 zX6_isWeek := ⟨lw_g_in (i := 403) (by decide +kernel) rfl, sz_X6_isWeek, in_X6, cz_X6_isWeek, dz_X6_isWeek⟩
theorem m_L_90 : CwV RL 90 2 zX6_setRatio := ⟨lw_g_in (i := 406) (by decide +kernel) rfl, iz_X6_setRatio, vz_X6_setRatio, in_X6, cz_X6_setRatio, dz_X6_setRatio⟩
theorem m_X6_168 : CwS RX6 168 1 zX6_isGroup := ⟨lw_g_in (i := 410) (by decide +kernel) rfl, sz_X6_isGroup, in_X6, cz_X6_isGroup, dz_X6_isGroup⟩
theorem m_L_94 : CwV RL 94 1 zX6_setRoomLimit := ⟨lw_g_in (i := 411) (by decide +kernel) rfl, iz_X6_setRoomLimit, vz_X6_setRoomLimit, in_X6, cz_X6_setRoomLimit, dz_X6_setRoomLimit⟩
theorem m_L_98 : CwV RL 98 2 zX6_present := ⟨lw_g_in (i := 415) (by decide +kernel) rfl, iz_X6_present, vz_X6_present, in_X6, cz_X6_present, dz_X6_present⟩
theorem m_X6_171 : CwS RX6 171 1 zX6_isHour := ⟨lw_g_in (i := 419) (by decide +kernel) rfl, sz_X6_isHour, in_X6, cz_X6_isHour, dz_X6_isHour⟩
theorem m_L_102 : CwV RL 102 2 zX6_need := ⟨lw_g_in (i := 422) (by decide +kernel) rfl, iz_X6_need, vz_X6_need, in_X6, cz_X6_need, dz_X6_need⟩
theorem m_X6_185 : CwV RX6 185 1 zX6_needIn := ⟨lw_g_in (i := 426) (by decide +kernel) rfl, iz_X6_needIn, vz_X6_needIn, in_X6, cz_X6_needIn, dz_X6_needIn⟩
theorem m_L_106 : CwV RL 106 2 zX6_staff := ⟨lw_g_in (i := 430) (by decide +kernel) rfl, iz_X6_staff, vz_X6_staff, in_X6, cz_X6_staff, dz_X6_staff⟩
theorem m_L_110 : CwV RL 110 0 zX6_unsafeHours := ⟨lw_g_in (i := 434) (by decide +kernel) rfl, iz_X6_unsafeHours, vz_X6_unsafeHours, in_X6, cz_X6_unsafeHours, dz_X6_unsafeHours⟩
theorem m_L_114 : CwV RL 114 1 zX6_load := ⟨lw_g_in (i := 438) (by decide +kernel) rfl, iz_X6_load, vz_X6_load, in_X6, cz_X6_load, dz_X6_load⟩
theorem m_X6_196 : CwV RX6 196 2 zX6_present := ⟨lw_g_in (i := 443) (by decide +kernel) rfl, iz_X6_present, vz_X6_present, in_X6, cz_X6_present, dz_X6_present⟩
theorem m_X6_199 : CwV RX6 199 2 zX6_staff := ⟨lw_g_in (i := 444) (by decide +kernel) rfl, iz_X6_staff, vz_X6_staff, in_X6, cz_X6_staff, dz_X6_staff⟩
theorem m_L_119 : CwV RL 119 2 zX6_setRate := ⟨lw_g_in (i := 445) (by decide +kernel) rfl, iz_X6_setRate, vz_X6_setRate, in_X6, cz_X6_setRate, dz_X6_setRate⟩
theorem m_L_123 : CwV RL 123 1 zX6_fee := ⟨lw_g_in (i := 449) (by decide +kernel) rfl, iz_X6_fee, vz_X6_fee, in_X6, cz_X6_fee, dz_X6_fee⟩
theorem m_X6_219 : CwV RX6 219 3 zX6_feeOf := ⟨lw_g_in (i := 453) (by decide +kernel) rfl, iz_X6_feeOf, vz_X6_feeOf, in_X6, cz_X6_feeOf, dz_X6_feeOf⟩
theorem m_X6_230 : CwV RX6 230 3 zX6_percentageOf := ⟨lw_g_in (i := 457) (by decide +kernel) rfl, iz_X6_percentageOf, vz_X6_percentageOf, in_X6, cz_X6_percentageOf, dz_X6_percentageOf⟩
theorem m_X6_233 : CwV RX6 233 3 zX6_rankOf := ⟨lw_g_in (i := 461) (by decide +kernel) rfl, iz_X6_rankOf, vz_X6_rankOf, in_X6, cz_X6_rankOf, dz_X6_rankOf⟩
theorem m_X6_226 : CwV RX6 226 3 zX6_pays := ⟨lw_g_in (i := 465) (by decide +kernel) rfl, iz_X6_pays, vz_X6_pays, in_X6, cz_X6_pays, dz_X6_pays⟩
theorem m_L_127 : CwV RL 127 0 zX6_income := ⟨lw_g_in (i := 469) (by decide +kernel) rfl, iz_X6_income, vz_X6_income, in_X6, cz_X6_income, dz_X6_income⟩
theorem m_X6_223 : CwV RX6 223 2 zX6_familyFee := ⟨lw_g_in (i := 473) (by decide +kernel) rfl, iz_X6_familyFee, vz_X6_familyFee, in_X6, cz_X6_familyFee, dz_X6_familyFee⟩
theorem m_L_131 : CwV RL 131 1 zX6_familyFeeIfAdmitted := ⟨lw_g_in (i := 477) (by decide +kernel) rfl, iz_X6_familyFeeIfAdmitted, vz_X6_familyFeeIfAdmitted, in_X6, cz_X6_familyFeeIfAdmitted, dz_X6_familyFeeIfAdmitted⟩
theorem m_L_135 : CwV RL 135 3 zX6_addSubstitute := ⟨lw_g_in (i := 481) (by decide +kernel) rfl, iz_X6_addSubstitute, vz_X6_addSubstitute, in_X6, cz_X6_addSubstitute, dz_X6_addSubstitute⟩
theorem m_X6_236 : CwV RX6 236 3 zX1_join := ⟨lw_g_in (i := 485) (by decide +kernel) rfl, iz_X1_join, vz_X1_join, in_X1, cz_X1_join, dz_X1_join⟩
theorem m_X1_31 : CwI RX1 31 3 zX5_init := ⟨lw_g_in (i := 490) (by decide +kernel) rfl, iz_X5_init, in_X5, cz_X5_init, dz_X5_init, rfl, rfl⟩
theorem ol_X5 : Cond.methodLink RX5 1 objectInit ∈ lw_g := lw_g_in (i := 493) (by decide +kernel) rfl
theorem m_L_140 : CwV RL 140 2 zX6_shortage := ⟨lw_g_in (i := 509) (by decide +kernel) rfl, iz_X6_shortage, vz_X6_shortage, in_X6, cz_X6_shortage, dz_X6_shortage⟩
theorem m_X6_239 : CwV RX6 239 0 zX6_noteNeeds := ⟨lw_g_in (i := 513) (by decide +kernel) rfl, iz_X6_noteNeeds, vz_X6_noteNeeds, in_X6, cz_X6_noteNeeds, dz_X6_noteNeeds⟩
theorem m_X6_242 : CwV RX6 242 3 zX6_shortageOf := ⟨lw_g_in (i := 517) (by decide +kernel) rfl, iz_X6_shortageOf, vz_X6_shortageOf, in_X6, cz_X6_shortageOf, dz_X6_shortageOf⟩
theorem m_X6_255 : CwV RX6 255 3 zX6_staffLeft := ⟨lw_g_in (i := 521) (by decide +kernel) rfl, iz_X6_staffLeft, vz_X6_staffLeft, in_X6, cz_X6_staffLeft, dz_X6_staffLeft⟩
theorem m_X6_252 : CwV RX6 252 1 zX2_hasHoliday := ⟨lw_g_in (i := 525) (by decide +kernel) rfl, iz_X2_hasHoliday, vz_X2_hasHoliday, in_X2, cz_X2_hasHoliday, dz_X2_hasHoliday⟩
theorem m_X6_258 : CwS RX6 258 2 zJ9_max_7cf53 := ⟨lw_g_in (i := 529) (by decide +kernel) rfl, sz_J9_max_7cf53, in_J9, cz_J9_max_7cf53, dz_J9_max_7cf53⟩
theorem m_L_144 : CwV RL 144 1 zX6_cover := ⟨lw_g_in (i := 532) (by decide +kernel) rfl, iz_X6_cover, vz_X6_cover, in_X6, cz_X6_cover, dz_X6_cover⟩
theorem m_X6_246 : CwV RX6 246 3 zX6_leastCostBelow := ⟨lw_g_in (i := 537) (by decide +kernel) rfl, iz_X6_leastCostBelow, vz_X6_leastCostBelow, in_X6, cz_X6_leastCostBelow, dz_X6_leastCostBelow⟩
theorem m_X6_266 : CwV RX6 266 1 zX1_leastCostBelow := ⟨lw_g_in (i := 541) (by decide +kernel) rfl, iz_X1_leastCostBelow, vz_X1_leastCostBelow, in_X1, cz_X1_leastCostBelow, dz_X1_leastCostBelow⟩
theorem m_X1_37 : CwS RX1 37 3 zX1_coverFrom := ⟨lw_g_in (i := 545) (by decide +kernel) rfl, sz_X1_coverFrom, in_X1, cz_X1_coverFrom, dz_X1_coverFrom⟩
theorem m_X1_41 : CwSN RX1 41 1 zX6_isDay RX6 := ⟨lw_n_in (i := 548) (by decide +kernel) rfl, sz_X6_isDay, in_X6, cz_X6_isDay, dz_X6_isDay⟩
theorem m_X1_45 : CwV RX1 45 1 zX1_keepSets := ⟨lw_g_in (i := 549) (by decide +kernel) rfl, iz_X1_keepSets, vz_X1_keepSets, in_X1, cz_X1_keepSets, dz_X1_keepSets⟩
theorem m_X1_49 : CwV RX1 49 2 zX1_canGive := ⟨lw_g_in (i := 553) (by decide +kernel) rfl, iz_X1_canGive, vz_X1_canGive, in_X1, cz_X1_canGive, dz_X1_canGive⟩
theorem m_X1_61 : CwS RX1 61 1 zJ6_bitCount_0f7a4 := ⟨lw_g_in (i := 557) (by decide +kernel) rfl, sz_J6_bitCount_0f7a4, in_J6, cz_J6_bitCount_0f7a4, dz_J6_bitCount_0f7a4⟩
theorem m_X1_66 : CwS RX1 66 2 zX1_isIn := ⟨lw_g_in (i := 563) (by decide +kernel) rfl, sz_X1_isIn, in_X1, cz_X1_isIn, dz_X1_isIn⟩
theorem m_X1_69 : CwV RX1 69 1 zX5_canTake := ⟨lw_g_in (i := 566) (by decide +kernel) rfl, iz_X5_canTake, vz_X5_canTake, in_X5, cz_X5_canTake, dz_X5_canTake⟩
theorem m_X1_53 : CwV RX1 53 2 zX1_give := ⟨lw_g_in (i := 570) (by decide +kernel) rfl, iz_X1_give, vz_X1_give, in_X1, cz_X1_give, dz_X1_give⟩
theorem m_X1_57 : CwV RX1 57 1 zX1_wagesOf := ⟨lw_g_in (i := 574) (by decide +kernel) rfl, iz_X1_wagesOf, vz_X1_wagesOf, in_X1, cz_X1_wagesOf, dz_X1_wagesOf⟩
theorem m_L_148 : CwV RL 148 1 zX6_coverOf := ⟨lw_g_in (i := 578) (by decide +kernel) rfl, iz_X6_coverOf, vz_X6_coverOf, in_X6, cz_X6_coverOf, dz_X6_coverOf⟩
theorem m_L_152 : CwV RL 152 1 zX6_cheapestHoliday := ⟨lw_g_in (i := 582) (by decide +kernel) rfl, iz_X6_cheapestHoliday, vz_X6_cheapestHoliday, in_X6, cz_X6_cheapestHoliday, dz_X6_cheapestHoliday⟩
theorem m_L_156 : CwV RL 156 1 zX6_type := ⟨lw_g_in (i := 586) (by decide +kernel) rfl, iz_X6_type, vz_X6_type, in_X6, cz_X6_type, dz_X6_type⟩
theorem m_X6_268 : CwV RX6 268 1 zX4_append := ⟨lw_g_in (i := 590) (by decide +kernel) rfl, iz_X4_append, vz_X4_append, in_X4, cz_X4_append, dz_X4_append⟩
theorem m_L_160 : CwV RL 160 0 zX6_clearText := ⟨lw_g_in (i := 594) (by decide +kernel) rfl, iz_X6_clearText, vz_X6_clearText, in_X6, cz_X6_clearText, dz_X6_clearText⟩
theorem m_L_164 : CwV RL 164 1 zX6_loadBookings := ⟨lw_g_in (i := 598) (by decide +kernel) rfl, iz_X6_loadBookings, vz_X6_loadBookings, in_X6, cz_X6_loadBookings, dz_X6_loadBookings⟩
theorem m_X6_275 : CwV RX6 275 0 zX4_read := ⟨lw_g_in (i := 602) (by decide +kernel) rfl, iz_X4_read, vz_X4_read, in_X4, cz_X4_read, dz_X4_read⟩
theorem m_X4_23 : CwSN RX4 23 3 zX6_spanOf RX6 := ⟨lw_n_in (i := 606) (by decide +kernel) rfl, sz_X6_spanOf, in_X6, cz_X6_spanOf, dz_X6_spanOf⟩
theorem m_L_168 : CwV RL 168 0 zX6_digest := ⟨lw_g_in (i := 607) (by decide +kernel) rfl, iz_X6_digest, vz_X6_digest, in_X6, cz_X6_digest, dz_X6_digest⟩
theorem m_X6_281 : CwS RX6 281 2 zX6_mix := ⟨lw_g_in (i := 612) (by decide +kernel) rfl, sz_X6_mix, in_X6, cz_X6_mix, dz_X6_mix⟩
theorem m_X6_285 : CwV RX6 285 1 zX6_mixChildren := ⟨lw_g_in (i := 616) (by decide +kernel) rfl, iz_X6_mixChildren, vz_X6_mixChildren, in_X6, cz_X6_mixChildren, dz_X6_mixChildren⟩
theorem m_X6_289 : CwV RX6 289 1 zX6_mixHours := ⟨lw_g_in (i := 620) (by decide +kernel) rfl, iz_X6_mixHours, vz_X6_mixHours, in_X6, cz_X6_mixHours, dz_X6_mixHours⟩
theorem m_X6_292 : CwV RX6 292 0 zX6_unsafeHours := ⟨lw_g_in (i := 624) (by decide +kernel) rfl, iz_X6_unsafeHours, vz_X6_unsafeHours, in_X6, cz_X6_unsafeHours, dz_X6_unsafeHours⟩
theorem m_X6_295 : CwV RX6 295 0 zX6_income := ⟨lw_g_in (i := 625) (by decide +kernel) rfl, iz_X6_income, vz_X6_income, in_X6, cz_X6_income, dz_X6_income⟩
theorem m_X6_298 : CwV RX6 298 1 zX6_coverOf := ⟨lw_g_in (i := 626) (by decide +kernel) rfl, iz_X6_coverOf, vz_X6_coverOf, in_X6, cz_X6_coverOf, dz_X6_coverOf⟩
theorem m_X6_301 : CwV RX6 301 2 zX6_shortage := ⟨lw_g_in (i := 627) (by decide +kernel) rfl, iz_X6_shortage, vz_X6_shortage, in_X6, cz_X6_shortage, dz_X6_shortage⟩
theorem m_L_12 : CwI RL 12 0 zX7_init := ⟨lw_g_in (i := 630) (by decide +kernel) rfl, iz_X7_init, in_X7, cz_X7_init, dz_X7_init, rfl, rfl⟩
theorem ol_X7 : Cond.methodLink RX7 1 objectInit ∈ lw_g := lw_g_in (i := 633) (by decide +kernel) rfl
theorem m_L_17 : CwV RL 17 2 zX7_addChild := ⟨lw_g_in (i := 710) (by decide +kernel) rfl, iz_X7_addChild, vz_X7_addChild, in_X7, cz_X7_addChild, dz_X7_addChild⟩
theorem m_X7_77 : CwS RX7 77 3 zX7_within := ⟨lw_g_in (i := 714) (by decide +kernel) rfl, sz_X7_within, in_X7, cz_X7_within, dz_X7_within⟩
theorem m_X7_81 : CwV RX7 81 0 zX7_childMany := ⟨lw_g_in (i := 717) (by decide +kernel) rfl, iz_X7_childMany, vz_X7_childMany, in_X7, cz_X7_childMany, dz_X7_childMany⟩
theorem m_L_22 : CwV RL 22 1 zX7_removeChild := ⟨lw_g_in (i := 721) (by decide +kernel) rfl, iz_X7_removeChild, vz_X7_removeChild, in_X7, cz_X7_removeChild, dz_X7_removeChild⟩
theorem m_X7_85 : CwV RX7 85 1 zX7_hasChild := ⟨lw_g_in (i := 725) (by decide +kernel) rfl, iz_X7_hasChild, vz_X7_hasChild, in_X7, cz_X7_hasChild, dz_X7_hasChild⟩
theorem m_L_27 : CwV RL 27 0 zX7_children := ⟨lw_g_in (i := 729) (by decide +kernel) rfl, iz_X7_children, vz_X7_children, in_X7, cz_X7_children, dz_X7_children⟩
theorem m_L_31 : CwV RL 31 1 zX7_age := ⟨lw_g_in (i := 733) (by decide +kernel) rfl, iz_X7_age, vz_X7_age, in_X7, cz_X7_age, dz_X7_age⟩
theorem m_L_35 : CwV RL 35 1 zX7_isAdmitted := ⟨lw_g_in (i := 737) (by decide +kernel) rfl, iz_X7_isAdmitted, vz_X7_isAdmitted, in_X7, cz_X7_isAdmitted, dz_X7_isAdmitted⟩
theorem m_L_39 : CwV RL 39 1 zX7_hours := ⟨lw_g_in (i := 741) (by decide +kernel) rfl, iz_X7_hours, vz_X7_hours, in_X7, cz_X7_hours, dz_X7_hours⟩
theorem m_X7_89 : CwV RX7 89 1 zX7_hoursOf := ⟨lw_g_in (i := 745) (by decide +kernel) rfl, iz_X7_hoursOf, vz_X7_hoursOf, in_X7, cz_X7_hoursOf, dz_X7_hoursOf⟩
theorem m_L_44 : CwV RL 44 4 zX7_book := ⟨lw_g_in (i := 749) (by decide +kernel) rfl, iz_X7_book, vz_X7_book, in_X7, cz_X7_book, dz_X7_book⟩
theorem m_X7_116 : CwS RX7 116 1 zX7_isDay := ⟨lw_g_in (i := 753) (by decide +kernel) rfl, sz_X7_isDay, in_X7, cz_X7_isDay, dz_X7_isDay⟩
theorem m_X7_119 : CwS RX7 119 2 zX7_isSpan := ⟨lw_g_in (i := 756) (by decide +kernel) rfl, sz_X7_isSpan, in_X7, cz_X7_isSpan, dz_X7_isSpan⟩
theorem m_X7_123 : CwV RX7 123 4 zX7_canHave := ⟨lw_g_in (i := 759) (by decide +kernel) rfl, iz_X7_canHave, vz_X7_canHave, in_X7, cz_X7_canHave, dz_X7_canHave⟩
theorem m_X7_96 : CwV RX7 96 3 zX7_isBooked := ⟨lw_g_in (i := 763) (by decide +kernel) rfl, iz_X7_isBooked, vz_X7_isBooked, in_X7, cz_X7_isBooked, dz_X7_isBooked⟩
theorem m_X7_113 : CwV RX7 113 3 zX7_isSafe := ⟨lw_g_in (i := 767) (by decide +kernel) rfl, iz_X7_isSafe, vz_X7_isSafe, in_X7, cz_X7_isSafe, dz_X7_isSafe⟩
theorem m_X7_102 : CwV RX7 102 3 zX7_presentOf := ⟨lw_g_in (i := 771) (by decide +kernel) rfl, iz_X7_presentOf, vz_X7_presentOf, in_X7, cz_X7_presentOf, dz_X7_presentOf⟩
theorem m_X7_93 : CwV RX7 93 1 zX7_isIn := ⟨lw_g_in (i := 775) (by decide +kernel) rfl, iz_X7_isIn, vz_X7_isIn, in_X7, cz_X7_isIn, dz_X7_isIn⟩
theorem m_X7_99 : CwV RX7 99 1 zX7_ageGroup := ⟨lw_g_in (i := 779) (by decide +kernel) rfl, iz_X7_ageGroup, vz_X7_ageGroup, in_X7, cz_X7_ageGroup, dz_X7_ageGroup⟩
theorem m_X7_106 : CwV RX7 106 3 zX7_needOf := ⟨lw_g_in (i := 783) (by decide +kernel) rfl, iz_X7_needOf, vz_X7_needOf, in_X7, cz_X7_needOf, dz_X7_needOf⟩
theorem m_X7_109 : CwV RX7 109 2 zX7_staffOf := ⟨lw_g_in (i := 787) (by decide +kernel) rfl, iz_X7_staffOf, vz_X7_staffOf, in_X7, cz_X7_staffOf, dz_X7_staffOf⟩
theorem m_L_48 : CwV RL 48 0 zX7_nextMonth := ⟨lw_g_in (i := 791) (by decide +kernel) rfl, iz_X7_nextMonth, vz_X7_nextMonth, in_X7, cz_X7_nextMonth, dz_X7_nextMonth⟩
theorem m_L_52 : CwV RL 52 1 zX7_waited := ⟨lw_g_in (i := 795) (by decide +kernel) rfl, iz_X7_waited, vz_X7_waited, in_X7, cz_X7_waited, dz_X7_waited⟩
theorem m_L_56 : CwV RL 56 1 zX7_points := ⟨lw_g_in (i := 799) (by decide +kernel) rfl, iz_X7_points, vz_X7_points, in_X7, cz_X7_points, dz_X7_points⟩
theorem m_X7_130 : CwV RX7 130 1 zX7_pointsOf := ⟨lw_g_in (i := 803) (by decide +kernel) rfl, iz_X7_pointsOf, vz_X7_pointsOf, in_X7, cz_X7_pointsOf, dz_X7_pointsOf⟩
theorem m_L_60 : CwV RL 60 1 zX7_waiting := ⟨lw_g_in (i := 807) (by decide +kernel) rfl, iz_X7_waiting, vz_X7_waiting, in_X7, cz_X7_waiting, dz_X7_waiting⟩
theorem m_X7_133 : CwV RX7 133 1 zX7_isWaiting := ⟨lw_g_in (i := 811) (by decide +kernel) rfl, iz_X7_isWaiting, vz_X7_isWaiting, in_X7, cz_X7_isWaiting, dz_X7_isWaiting⟩
theorem m_X7_139 : CwV RX7 139 1 zX7_placeOf := ⟨lw_g_in (i := 815) (by decide +kernel) rfl, iz_X7_placeOf, vz_X7_placeOf, in_X7, cz_X7_placeOf, dz_X7_placeOf⟩
theorem m_X7_136 : CwV RX7 136 2 zX7_isBefore := ⟨lw_g_in (i := 819) (by decide +kernel) rfl, iz_X7_isBefore, vz_X7_isBefore, in_X7, cz_X7_isBefore, dz_X7_isBefore⟩
theorem m_L_64 : CwV RL 64 0 zX7_admit := ⟨lw_g_in (i := 823) (by decide +kernel) rfl, iz_X7_admit, vz_X7_admit, in_X7, cz_X7_admit, dz_X7_admit⟩
theorem m_X7_142 : CwV RX7 142 1 zX7_canBeAdmitted := ⟨lw_g_in (i := 827) (by decide +kernel) rfl, iz_X7_canBeAdmitted, vz_X7_canBeAdmitted, in_X7, cz_X7_canBeAdmitted, dz_X7_canBeAdmitted⟩
theorem m_L_68 : CwV RL 68 1 zX7_release := ⟨lw_g_in (i := 831) (by decide +kernel) rfl, iz_X7_release, vz_X7_release, in_X7, cz_X7_release, dz_X7_release⟩
theorem m_L_72 : CwV RL 72 0 zX7_addEducator := ⟨lw_g_in (i := 835) (by decide +kernel) rfl, iz_X7_addEducator, vz_X7_addEducator, in_X7, cz_X7_addEducator, dz_X7_addEducator⟩
theorem m_X7_145 : CwV RX7 145 0 zX7_educatorMany := ⟨lw_g_in (i := 839) (by decide +kernel) rfl, iz_X7_educatorMany, vz_X7_educatorMany, in_X7, cz_X7_educatorMany, dz_X7_educatorMany⟩
theorem m_L_76 : CwV RL 76 1 zX7_removeEducator := ⟨lw_g_in (i := 843) (by decide +kernel) rfl, iz_X7_removeEducator, vz_X7_removeEducator, in_X7, cz_X7_removeEducator, dz_X7_removeEducator⟩
theorem m_X7_148 : CwV RX7 148 1 zX7_hasEducator := ⟨lw_g_in (i := 847) (by decide +kernel) rfl, iz_X7_hasEducator, vz_X7_hasEducator, in_X7, cz_X7_hasEducator, dz_X7_hasEducator⟩
theorem m_L_80 : CwV RL 80 0 zX7_educators := ⟨lw_g_in (i := 851) (by decide +kernel) rfl, iz_X7_educators, vz_X7_educators, in_X7, cz_X7_educators, dz_X7_educators⟩
theorem m_L_84 : CwV RL 84 4 zX7_work := ⟨lw_g_in (i := 855) (by decide +kernel) rfl, iz_X7_work, vz_X7_work, in_X7, cz_X7_work, dz_X7_work⟩
theorem m_L_89 : CwV RL 89 3 zX7_setHoliday := ⟨lw_g_in (i := 859) (by decide +kernel) rfl, iz_X7_setHoliday, vz_X7_setHoliday, in_X7, cz_X7_setHoliday, dz_X7_setHoliday⟩
theorem m_X7_151 : CwS RX7 151 1 zX7_isWeek := ⟨lw_g_in (i := 863) (by decide +kernel) rfl, sz_X7_isWeek, in_X7, cz_X7_isWeek, dz_X7_isWeek⟩
theorem m_L_93 : CwV RL 93 2 zX7_setRatio := ⟨lw_g_in (i := 866) (by decide +kernel) rfl, iz_X7_setRatio, vz_X7_setRatio, in_X7, cz_X7_setRatio, dz_X7_setRatio⟩
theorem m_X7_154 : CwS RX7 154 1 zX7_isAgeGroup := ⟨lw_g_in (i := 870) (by decide +kernel) rfl, sz_X7_isAgeGroup, in_X7, cz_X7_isAgeGroup, dz_X7_isAgeGroup⟩
theorem m_L_97 : CwV RL 97 1 zX7_setRoomLimit := ⟨lw_g_in (i := 873) (by decide +kernel) rfl, iz_X7_setRoomLimit, vz_X7_setRoomLimit, in_X7, cz_X7_setRoomLimit, dz_X7_setRoomLimit⟩
theorem m_L_101 : CwV RL 101 2 zX7_present := ⟨lw_g_in (i := 877) (by decide +kernel) rfl, iz_X7_present, vz_X7_present, in_X7, cz_X7_present, dz_X7_present⟩
theorem m_X7_157 : CwS RX7 157 2 zX7_isHour := ⟨lw_g_in (i := 881) (by decide +kernel) rfl, sz_X7_isHour, in_X7, cz_X7_isHour, dz_X7_isHour⟩
theorem m_L_105 : CwV RL 105 2 zX7_need := ⟨lw_g_in (i := 884) (by decide +kernel) rfl, iz_X7_need, vz_X7_need, in_X7, cz_X7_need, dz_X7_need⟩
theorem m_L_109 : CwV RL 109 2 zX7_staff := ⟨lw_g_in (i := 888) (by decide +kernel) rfl, iz_X7_staff, vz_X7_staff, in_X7, cz_X7_staff, dz_X7_staff⟩
theorem m_L_113 : CwV RL 113 0 zX7_unsafeHours := ⟨lw_g_in (i := 892) (by decide +kernel) rfl, iz_X7_unsafeHours, vz_X7_unsafeHours, in_X7, cz_X7_unsafeHours, dz_X7_unsafeHours⟩
theorem m_X7_160 : CwV RX7 160 0 zX7_unsafeMany := ⟨lw_g_in (i := 896) (by decide +kernel) rfl, iz_X7_unsafeMany, vz_X7_unsafeMany, in_X7, cz_X7_unsafeMany, dz_X7_unsafeMany⟩
theorem m_L_118 : CwV RL 118 1 zX7_load := ⟨lw_g_in (i := 900) (by decide +kernel) rfl, iz_X7_load, vz_X7_load, in_X7, cz_X7_load, dz_X7_load⟩
theorem m_L_122 : CwV RL 122 2 zX7_setRate := ⟨lw_g_in (i := 905) (by decide +kernel) rfl, iz_X7_setRate, vz_X7_setRate, in_X7, cz_X7_setRate, dz_X7_setRate⟩
theorem m_L_126 : CwV RL 126 1 zX7_fee := ⟨lw_g_in (i := 909) (by decide +kernel) rfl, iz_X7_fee, vz_X7_fee, in_X7, cz_X7_fee, dz_X7_fee⟩
theorem m_X7_165 : CwV RX7 165 1 zX7_feeOf := ⟨lw_g_in (i := 913) (by decide +kernel) rfl, iz_X7_feeOf, vz_X7_feeOf, in_X7, cz_X7_feeOf, dz_X7_feeOf⟩
theorem m_L_130 : CwV RL 130 0 zX7_income := ⟨lw_g_in (i := 917) (by decide +kernel) rfl, iz_X7_income, vz_X7_income, in_X7, cz_X7_income, dz_X7_income⟩
theorem m_X7_168 : CwV RX7 168 1 zX7_feesOf := ⟨lw_g_in (i := 921) (by decide +kernel) rfl, iz_X7_feesOf, vz_X7_feesOf, in_X7, cz_X7_feesOf, dz_X7_feesOf⟩
theorem m_L_134 : CwV RL 134 1 zX7_familyFeeIfAdmitted := ⟨lw_g_in (i := 925) (by decide +kernel) rfl, iz_X7_familyFeeIfAdmitted, vz_X7_familyFeeIfAdmitted, in_X7, cz_X7_familyFeeIfAdmitted, dz_X7_familyFeeIfAdmitted⟩
theorem m_L_139 : CwV RL 139 3 zX7_addSubstitute := ⟨lw_g_in (i := 929) (by decide +kernel) rfl, iz_X7_addSubstitute, vz_X7_addSubstitute, in_X7, cz_X7_addSubstitute, dz_X7_addSubstitute⟩
theorem m_L_143 : CwV RL 143 2 zX7_shortage := ⟨lw_g_in (i := 933) (by decide +kernel) rfl, iz_X7_shortage, vz_X7_shortage, in_X7, cz_X7_shortage, dz_X7_shortage⟩
theorem m_X7_174 : CwV RX7 174 2 zX7_shortageOf := ⟨lw_g_in (i := 937) (by decide +kernel) rfl, iz_X7_shortageOf, vz_X7_shortageOf, in_X7, cz_X7_shortageOf, dz_X7_shortageOf⟩
theorem m_L_147 : CwV RL 147 1 zX7_cover := ⟨lw_g_in (i := 941) (by decide +kernel) rfl, iz_X7_cover, vz_X7_cover, in_X7, cz_X7_cover, dz_X7_cover⟩
theorem m_X7_187 : CwV RX7 187 1 zX7_findCosts := ⟨lw_g_in (i := 945) (by decide +kernel) rfl, iz_X7_findCosts, vz_X7_findCosts, in_X7, cz_X7_findCosts, dz_X7_findCosts⟩
theorem m_X7_181 : CwV RX7 181 4 zX7_canBeGiven := ⟨lw_g_in (i := 950) (by decide +kernel) rfl, iz_X7_canBeGiven, vz_X7_canBeGiven, in_X7, cz_X7_canBeGiven, dz_X7_canBeGiven⟩
theorem m_X7_177 : CwS RX7 177 1 zX7_power := ⟨lw_g_in (i := 954) (by decide +kernel) rfl, sz_X7_power, in_X7, cz_X7_power, dz_X7_power⟩
theorem m_X7_184 : CwV RX7 184 3 zX7_costWith := ⟨lw_g_in (i := 957) (by decide +kernel) rfl, iz_X7_costWith, vz_X7_costWith, in_X7, cz_X7_costWith, dz_X7_costWith⟩
theorem m_L_151 : CwV RL 151 1 zX7_coverOf := ⟨lw_g_in (i := 961) (by decide +kernel) rfl, iz_X7_coverOf, vz_X7_coverOf, in_X7, cz_X7_coverOf, dz_X7_coverOf⟩
theorem m_L_155 : CwV RL 155 1 zX7_cheapestHoliday := ⟨lw_g_in (i := 965) (by decide +kernel) rfl, iz_X7_cheapestHoliday, vz_X7_cheapestHoliday, in_X7, cz_X7_cheapestHoliday, dz_X7_cheapestHoliday⟩
theorem m_L_159 : CwV RL 159 1 zX7_type := ⟨lw_g_in (i := 969) (by decide +kernel) rfl, iz_X7_type, vz_X7_type, in_X7, cz_X7_type, dz_X7_type⟩
theorem m_L_163 : CwV RL 163 0 zX7_clearText := ⟨lw_g_in (i := 973) (by decide +kernel) rfl, iz_X7_clearText, vz_X7_clearText, in_X7, cz_X7_clearText, dz_X7_clearText⟩
theorem m_L_167 : CwV RL 167 1 zX7_loadBookings := ⟨lw_g_in (i := 977) (by decide +kernel) rfl, iz_X7_loadBookings, vz_X7_loadBookings, in_X7, cz_X7_loadBookings, dz_X7_loadBookings⟩
theorem m_X7_196 : CwV RX7 196 0 zX7_readText := ⟨lw_g_in (i := 981) (by decide +kernel) rfl, iz_X7_readText, vz_X7_readText, in_X7, cz_X7_readText, dz_X7_readText⟩
theorem m_X7_193 : CwV RX7 193 2 zX7_character := ⟨lw_g_in (i := 985) (by decide +kernel) rfl, iz_X7_character, vz_X7_character, in_X7, cz_X7_character, dz_X7_character⟩
theorem m_L_172 : CwV RL 172 0 zX7_digest := ⟨lw_g_in (i := 989) (by decide +kernel) rfl, iz_X7_digest, vz_X7_digest, in_X7, cz_X7_digest, dz_X7_digest⟩
