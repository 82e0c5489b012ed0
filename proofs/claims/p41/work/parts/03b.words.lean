theorem iz_X6_present : Cond.instanceMethod yX6_present ∈ lw_g := lw_g_in (i := 455) (by decide +kernel) rfl
theorem vz_X6_present : Cond.selects RX6 yX6_present yX6_present ∈ lw_g := lw_g_in (i := 456) (by decide +kernel) rfl
theorem dz_X6_present : (zX6_present).1.cls ≠ "java/lang/invoke/MethodHandle" ∧ (zX6_present).1.cls ≠ "java/lang/invoke/VarHandle" ∧ (parseMethodDescriptor (zX6_present).1.desc).map (fun d => d.parameters.length) = some 2 := by decide +kernel
abbrev zX6_need : MI := (yX6_need, cX6_need, 3, (some .int))
theorem cz_X6_need : wz zX6_need ∈ lw_g := lw_g_in (i := 464) (by decide +kernel) rfl
theorem iz_X6_need : Cond.instanceMethod yX6_need ∈ lw_g := lw_g_in (i := 462) (by decide +kernel) rfl
theorem vz_X6_need : Cond.selects RX6 yX6_need yX6_need ∈ lw_g := lw_g_in (i := 463) (by decide +kernel) rfl
theorem dz_X6_need : (zX6_need).1.cls ≠ "java/lang/invoke/MethodHandle" ∧ (zX6_need).1.cls ≠ "java/lang/invoke/VarHandle" ∧ (parseMethodDescriptor (zX6_need).1.desc).map (fun d => d.parameters.length) = some 2 := by decide +kernel
abbrev zX6_staff : MI := (yX6_staff, cX6_staff, 3, (some .int))
theorem cz_X6_staff : wz zX6_staff ∈ lw_g := lw_g_in (i := 472) (by decide +kernel) rfl
theorem iz_X6_staff : Cond.instanceMethod yX6_staff ∈ lw_g := lw_g_in (i := 470) (by decide +kernel) rfl
theorem vz_X6_staff : Cond.selects RX6 yX6_staff yX6_staff ∈ lw_g := lw_g_in (i := 471) (by decide +kernel) rfl
theorem dz_X6_staff : (zX6_staff).1.cls ≠ "java/lang/invoke/MethodHandle" ∧ (zX6_staff).1.cls ≠ "java/lang/invoke/VarHandle" ∧ (parseMethodDescriptor (zX6_staff).1.desc).map (fun d => d.parameters.length) = some 2 := by decide +kernel
abbrev zX6_unsafeHours : MI := (yX6_unsafeHours, cX6_unsafeHours, 3, (some .int))
theorem cz_X6_unsafeHours : wz zX6_unsafeHours ∈ lw_g := lw_g_in (i := 487) (by decide +kernel) rfl
theorem iz_X6_unsafeHours : Cond.instanceMethod yX6_unsafeHours ∈ lw_g := lw_g_in (i := 485) (by decide +kernel) rfl
theorem vz_X6_unsafeHours : Cond.selects RX6 yX6_unsafeHours yX6_unsafeHours ∈ lw_g := lw_g_in (i := 486) (by decide +kernel) rfl
theorem dz_X6_unsafeHours : (zX6_unsafeHours).1.cls ≠ "java/lang/invoke/MethodHandle" ∧ (zX6_unsafeHours).1.cls ≠ "java/lang/invoke/VarHandle" ∧ (parseMethodDescriptor (zX6_unsafeHours).1.desc).map (fun d => d.parameters.length) = some 0 := by decide +kernel
abbrev zX6_load : MI := (yX6_load, cX6_load, 5, (some .double))
theorem cz_X6_load : wz zX6_load ∈ lw_g := lw_g_in (i := 476) (by decide +kernel) rfl
theorem iz_X6_load : Cond.instanceMethod yX6_load ∈ lw_g := lw_g_in (i := 474) (by decide +kernel) rfl
theorem vz_X6_load : Cond.selects RX6 yX6_load yX6_load ∈ lw_g := lw_g_in (i := 475) (by decide +kernel) rfl
theorem dz_X6_load : (zX6_load).1.cls ≠ "java/lang/invoke/MethodHandle" ∧ (zX6_load).1.cls ≠ "java/lang/invoke/VarHandle" ∧ (parseMethodDescriptor (zX6_load).1.desc).map (fun d => d.parameters.length) = some 1 := by decide +kernel
abbrev zX6_countHeads : MI := (yX6_countHeads, cX6_countHeads, 6, none)
theorem cz_X6_countHeads : wz zX6_countHeads ∈ lw_g := lw_g_in (i := 209) (by decide +kernel) rfl
theorem iz_X6_countHeads : Cond.instanceMethod yX6_countHeads ∈ lw_g := lw_g_in (i := 208) (by decide +kernel) rfl
theorem vz_X6_countHeads : Cond.selects RX6 yX6_countHeads yX6_countHeads ∈ lw_g := lw_g_in (i := 3) (by decide +kernel) rfl
theorem dz_X6_countHeads : (zX6_countHeads).1.cls ≠ "java/lang/invoke/MethodHandle" ∧ (zX6_countHeads).1.cls ≠ "java/lang/invoke/VarHandle" ∧ (parseMethodDescriptor (zX6_countHeads).1.desc).map (fun d => d.parameters.length) = some 1 := by decide +kernel
abbrev zX6_needIn : MI := (yX6_needIn, cX6_needIn, 2, (some .int))
theorem cz_X6_needIn : wz zX6_needIn ∈ lw_g := lw_g_in (i := 468) (by decide +kernel) rfl
theorem iz_X6_needIn : Cond.instanceMethod yX6_needIn ∈ lw_g := lw_g_in (i := 467) (by decide +kernel) rfl
theorem vz_X6_needIn : Cond.selects RX6 yX6_needIn yX6_needIn ∈ lw_g := lw_g_in (i := 19) (by decide +kernel) rfl
theorem dz_X6_needIn : (zX6_needIn).1.cls ≠ "java/lang/invoke/MethodHandle" ∧ (zX6_needIn).1.cls ≠ "java/lang/invoke/VarHandle" ∧ (parseMethodDescriptor (zX6_needIn).1.desc).map (fun d => d.parameters.length) = some 1 := by decide +kernel
abbrev zX6_staffIn : MI := (yX6_staffIn, cX6_staffIn, 7, (some .int))
theorem cz_X6_staffIn : wz zX6_staffIn ∈ lw_g := lw_g_in (i := 240) (by decide +kernel) rfl
theorem iz_X6_staffIn : Cond.instanceMethod yX6_staffIn ∈ lw_g := lw_g_in (i := 239) (by decide +kernel) rfl
theorem vz_X6_staffIn : Cond.selects RX6 yX6_staffIn yX6_staffIn ∈ lw_g := lw_g_in (i := 5) (by decide +kernel) rfl
theorem dz_X6_staffIn : (zX6_staffIn).1.cls ≠ "java/lang/invoke/MethodHandle" ∧ (zX6_staffIn).1.cls ≠ "java/lang/invoke/VarHandle" ∧ (parseMethodDescriptor (zX6_staffIn).1.desc).map (fun d => d.parameters.length) = some 1 := by decide +kernel
abbrev zX6_areHeadsSafe : MI := (yX6_areHeadsSafe, cX6_areHeadsSafe, 2, (some .boolean))
theorem cz_X6_areHeadsSafe : wz zX6_areHeadsSafe ∈ lw_g := lw_g_in (i := 228) (by decide +kernel) rfl
theorem iz_X6_areHeadsSafe : Cond.instanceMethod yX6_areHeadsSafe ∈ lw_g := lw_g_in (i := 227) (by decide +kernel) rfl
theorem vz_X6_areHeadsSafe : Cond.selects RX6 yX6_areHeadsSafe yX6_areHeadsSafe ∈ lw_g := lw_g_in (i := 4) (by decide +kernel) rfl
theorem dz_X6_areHeadsSafe : (zX6_areHeadsSafe).1.cls ≠ "java/lang/invoke/MethodHandle" ∧ (zX6_areHeadsSafe).1.cls ≠ "java/lang/invoke/VarHandle" ∧ (parseMethodDescriptor (zX6_areHeadsSafe).1.desc).map (fun d => d.parameters.length) = some 1 := by decide +kernel
abbrev zX6_areSafeWith : MI := (yX6_areSafeWith, cX6_areSafeWith, 5, (some .boolean))
theorem cz_X6_areSafeWith : wz zX6_areSafeWith ∈ lw_g := lw_g_in (i := 202) (by decide +kernel) rfl
theorem iz_X6_areSafeWith : Cond.instanceMethod yX6_areSafeWith ∈ lw_g := lw_g_in (i := 201) (by decide +kernel) rfl
theorem vz_X6_areSafeWith : Cond.selects RX6 yX6_areSafeWith yX6_areSafeWith ∈ lw_g := lw_g_in (i := 2) (by decide +kernel) rfl
theorem dz_X6_areSafeWith : (zX6_areSafeWith).1.cls ≠ "java/lang/invoke/MethodHandle" ∧ (zX6_areSafeWith).1.cls ≠ "java/lang/invoke/VarHandle" ∧ (parseMethodDescriptor (zX6_areSafeWith).1.desc).map (fun d => d.parameters.length) = some 2 := by decide +kernel
abbrev zX6_setRate : MI := (yX6_setRate, cX6_setRate, 4, (some .int))
theorem cz_X6_setRate : wz zX6_setRate ∈ lw_g := lw_g_in (i := 324) (by decide +kernel) rfl
theorem iz_X6_setRate : Cond.instanceMethod yX6_setRate ∈ lw_g := lw_g_in (i := 322) (by decide +kernel) rfl
theorem vz_X6_setRate : Cond.selects RX6 yX6_setRate yX6_setRate ∈ lw_g := lw_g_in (i := 323) (by decide +kernel) rfl
theorem dz_X6_setRate : (zX6_setRate).1.cls ≠ "java/lang/invoke/MethodHandle" ∧ (zX6_setRate).1.cls ≠ "java/lang/invoke/VarHandle" ∧ (parseMethodDescriptor (zX6_setRate).1.desc).map (fun d => d.parameters.length) = some 2 := by decide +kernel
abbrev zX6_fee : MI := (yX6_fee, cX6_fee, 3, (some .int))
theorem cz_X6_fee : wz zX6_fee ∈ lw_g := lw_g_in (i := 418) (by decide +kernel) rfl
theorem iz_X6_fee : Cond.instanceMethod yX6_fee ∈ lw_g := lw_g_in (i := 416) (by decide +kernel) rfl
theorem vz_X6_fee : Cond.selects RX6 yX6_fee yX6_fee ∈ lw_g := lw_g_in (i := 417) (by decide +kernel) rfl
theorem dz_X6_fee : (zX6_fee).1.cls ≠ "java/lang/invoke/MethodHandle" ∧ (zX6_fee).1.cls ≠ "java/lang/invoke/VarHandle" ∧ (parseMethodDescriptor (zX6_fee).1.desc).map (fun d => d.parameters.length) = some 1 := by decide +kernel
abbrev zX6_income : MI := (yX6_income, cX6_income, 3, (some .int))
theorem cz_X6_income : wz zX6_income ∈ lw_g := lw_g_in (i := 483) (by decide +kernel) rfl
theorem iz_X6_income : Cond.instanceMethod yX6_income ∈ lw_g := lw_g_in (i := 481) (by decide +kernel) rfl
theorem vz_X6_income : Cond.selects RX6 yX6_income yX6_income ∈ lw_g := lw_g_in (i := 482) (by decide +kernel) rfl
theorem dz_X6_income : (zX6_income).1.cls ≠ "java/lang/invoke/MethodHandle" ∧ (zX6_income).1.cls ≠ "java/lang/invoke/VarHandle" ∧ (parseMethodDescriptor (zX6_income).1.desc).map (fun d => d.parameters.length) = some 0 := by decide +kernel
abbrev zX6_familyFeeIfAdmitted : MI := (yX6_familyFeeIfAdmitted, cX6_familyFeeIfAdmitted, 3, (some .int))
theorem cz_X6_familyFeeIfAdmitted : wz zX6_familyFeeIfAdmitted ∈ lw_g := lw_g_in (i := 449) (by decide +kernel) rfl
theorem iz_X6_familyFeeIfAdmitted : Cond.instanceMethod yX6_familyFeeIfAdmitted ∈ lw_g := lw_g_in (i := 447) (by decide +kernel) rfl
theorem vz_X6_familyFeeIfAdmitted : Cond.selects RX6 yX6_familyFeeIfAdmitted yX6_familyFeeIfAdmitted ∈ lw_g := lw_g_in (i := 448) (by decide +kernel) rfl
theorem dz_X6_familyFeeIfAdmitted : (zX6_familyFeeIfAdmitted).1.cls ≠ "java/lang/invoke/MethodHandle" ∧ (zX6_familyFeeIfAdmitted).1.cls ≠ "java/lang/invoke/VarHandle" ∧ (parseMethodDescriptor (zX6_familyFeeIfAdmitted).1.desc).map (fun d => d.parameters.length) = some 1 := by decide +kernel
abbrev zX6_familyFee : MI := (yX6_familyFee, cX6_familyFee, 6, (some .int))
theorem cz_X6_familyFee : wz zX6_familyFee ∈ lw_g := lw_g_in (i := 453) (by decide +kernel) rfl
theorem iz_X6_familyFee : Cond.instanceMethod yX6_familyFee ∈ lw_g := lw_g_in (i := 452) (by decide +kernel) rfl
theorem vz_X6_familyFee : Cond.selects RX6 yX6_familyFee yX6_familyFee ∈ lw_g := lw_g_in (i := 18) (by decide +kernel) rfl
theorem dz_X6_familyFee : (zX6_familyFee).1.cls ≠ "java/lang/invoke/MethodHandle" ∧ (zX6_familyFee).1.cls ≠ "java/lang/invoke/VarHandle" ∧ (parseMethodDescriptor (zX6_familyFee).1.desc).map (fun d => d.parameters.length) = some 2 := by decide +kernel
abbrev zX6_pays : MI := (yX6_pays, cX6_pays, 4, (some .boolean))
theorem cz_X6_pays : wz zX6_pays ∈ lw_g := lw_g_in (i := 434) (by decide +kernel) rfl
theorem iz_X6_pays : Cond.instanceMethod yX6_pays ∈ lw_g := lw_g_in (i := 433) (by decide +kernel) rfl
theorem vz_X6_pays : Cond.selects RX6 yX6_pays yX6_pays ∈ lw_g := lw_g_in (i := 16) (by decide +kernel) rfl
theorem dz_X6_pays : (zX6_pays).1.cls ≠ "java/lang/invoke/MethodHandle" ∧ (zX6_pays).1.cls ≠ "java/lang/invoke/VarHandle" ∧ (parseMethodDescriptor (zX6_pays).1.desc).map (fun d => d.parameters.length) = some 3 := by decide +kernel
abbrev zX6_feeOf : MI := (yX6_feeOf, cX6_feeOf, 5, (some .int))
theorem cz_X6_feeOf : wz zX6_feeOf ∈ lw_g := lw_g_in (i := 422) (by decide +kernel) rfl
theorem iz_X6_feeOf : Cond.instanceMethod yX6_feeOf ∈ lw_g := lw_g_in (i := 421) (by decide +kernel) rfl
theorem vz_X6_feeOf : Cond.selects RX6 yX6_feeOf yX6_feeOf ∈ lw_g := lw_g_in (i := 13) (by decide +kernel) rfl
theorem dz_X6_feeOf : (zX6_feeOf).1.cls ≠ "java/lang/invoke/MethodHandle" ∧ (zX6_feeOf).1.cls ≠ "java/lang/invoke/VarHandle" ∧ (parseMethodDescriptor (zX6_feeOf).1.desc).map (fun d => d.parameters.length) = some 3 := by decide +kernel
abbrev zX6_percentageOf : MI := (yX6_percentageOf, cX6_percentageOf, 4, (some .int))
theorem cz_X6_percentageOf : wz zX6_percentageOf ∈ lw_g := lw_g_in (i := 426) (by decide +kernel) rfl
theorem iz_X6_percentageOf : Cond.instanceMethod yX6_percentageOf ∈ lw_g := lw_g_in (i := 425) (by decide +kernel) rfl
theorem vz_X6_percentageOf : Cond.selects RX6 yX6_percentageOf yX6_percentageOf ∈ lw_g := lw_g_in (i := 14) (by decide +kernel) rfl
theorem dz_X6_percentageOf : (zX6_percentageOf).1.cls ≠ "java/lang/invoke/MethodHandle" ∧ (zX6_percentageOf).1.cls ≠ "java/lang/invoke/VarHandle" ∧ (parseMethodDescriptor (zX6_percentageOf).1.desc).map (fun d => d.parameters.length) = some 3 := by decide +kernel
abbrev zX6_rankOf : MI := (yX6_rankOf, cX6_rankOf, 8, (some .int))
theorem cz_X6_rankOf : wz zX6_rankOf ∈ lw_g := lw_g_in (i := 430) (by decide +kernel) rfl
theorem iz_X6_rankOf : Cond.instanceMethod yX6_rankOf ∈ lw_g := lw_g_in (i := 429) (by decide +kernel) rfl
theorem vz_X6_rankOf : Cond.selects RX6 yX6_rankOf yX6_rankOf ∈ lw_g := lw_g_in (i := 15) (by decide +kernel) rfl
theorem dz_X6_rankOf : (zX6_rankOf).1.cls ≠ "java/lang/invoke/MethodHandle" ∧ (zX6_rankOf).1.cls ≠ "java/lang/invoke/VarHandle" ∧ (parseMethodDescriptor (zX6_rankOf).1.desc).map (fun d => d.parameters.length) = some 3 := by decide +kernel
abbrev zX6_addSubstitute : MI := (yX6_addSubstitute, cX6_addSubstitute, 4, (some .int))
theorem cz_X6_addSubstitute : wz zX6_addSubstitute ∈ lw_g := lw_g_in (i := 328) (by decide +kernel) rfl
theorem iz_X6_addSubstitute : Cond.instanceMethod yX6_addSubstitute ∈ lw_g := lw_g_in (i := 326) (by decide +kernel) rfl
theorem vz_X6_addSubstitute : Cond.selects RX6 yX6_addSubstitute yX6_addSubstitute ∈ lw_g := lw_g_in (i := 327) (by decide +kernel) rfl
theorem dz_X6_addSubstitute : (zX6_addSubstitute).1.cls ≠ "java/lang/invoke/MethodHandle" ∧ (zX6_addSubstitute).1.cls ≠ "java/lang/invoke/VarHandle" ∧ (parseMethodDescriptor (zX6_addSubstitute).1.desc).map (fun d => d.parameters.length) = some 3 := by decide +kernel
abbrev zX6_shortage : MI := (yX6_shortage, cX6_shortage, 3, (some .int))
theorem cz_X6_shortage : wz zX6_shortage ∈ lw_g := lw_g_in (i := 498) (by decide +kernel) rfl
theorem iz_X6_shortage : Cond.instanceMethod yX6_shortage ∈ lw_g := lw_g_in (i := 496) (by decide +kernel) rfl
theorem vz_X6_shortage : Cond.selects RX6 yX6_shortage yX6_shortage ∈ lw_g := lw_g_in (i := 497) (by decide +kernel) rfl
theorem dz_X6_shortage : (zX6_shortage).1.cls ≠ "java/lang/invoke/MethodHandle" ∧ (zX6_shortage).1.cls ≠ "java/lang/invoke/VarHandle" ∧ (parseMethodDescriptor (zX6_shortage).1.desc).map (fun d => d.parameters.length) = some 2 := by decide +kernel
abbrev zX6_cover : MI := (yX6_cover, cX6_cover, 4, (some .int))
theorem cz_X6_cover : wz zX6_cover ∈ lw_g := lw_g_in (i := 527) (by decide +kernel) rfl
theorem iz_X6_cover : Cond.instanceMethod yX6_cover ∈ lw_g := lw_g_in (i := 525) (by decide +kernel) rfl
theorem vz_X6_cover : Cond.selects RX6 yX6_cover yX6_cover ∈ lw_g := lw_g_in (i := 526) (by decide +kernel) rfl
theorem dz_X6_cover : (zX6_cover).1.cls ≠ "java/lang/invoke/MethodHandle" ∧ (zX6_cover).1.cls ≠ "java/lang/invoke/VarHandle" ∧ (parseMethodDescriptor (zX6_cover).1.desc).map (fun d => d.parameters.length) = some 1 := by decide +kernel
abbrev zX6_coverOf : MI := (yX6_coverOf, cX6_coverOf, 2, (some .int))
theorem cz_X6_coverOf : wz zX6_coverOf ∈ lw_g := lw_g_in (i := 573) (by decide +kernel) rfl
theorem iz_X6_coverOf : Cond.instanceMethod yX6_coverOf ∈ lw_g := lw_g_in (i := 571) (by decide +kernel) rfl
theorem vz_X6_coverOf : Cond.selects RX6 yX6_coverOf yX6_coverOf ∈ lw_g := lw_g_in (i := 572) (by decide +kernel) rfl
theorem dz_X6_coverOf : (zX6_coverOf).1.cls ≠ "java/lang/invoke/MethodHandle" ∧ (zX6_coverOf).1.cls ≠ "java/lang/invoke/VarHandle" ∧ (parseMethodDescriptor (zX6_coverOf).1.desc).map (fun d => d.parameters.length) = some 1 := by decide +kernel
abbrev zX6_cheapestHoliday : MI := (yX6_cheapestHoliday, cX6_cheapestHoliday, 7, (some .int))
theorem cz_X6_cheapestHoliday : wz zX6_cheapestHoliday ∈ lw_g := lw_g_in (i := 577) (by decide +kernel) rfl
theorem iz_X6_cheapestHoliday : Cond.instanceMethod yX6_cheapestHoliday ∈ lw_g := lw_g_in (i := 575) (by decide +kernel) rfl
theorem vz_X6_cheapestHoliday : Cond.selects RX6 yX6_cheapestHoliday yX6_cheapestHoliday ∈ lw_g := lw_g_in (i := 576) (by decide +kernel) rfl
theorem dz_X6_cheapestHoliday : (zX6_cheapestHoliday).1.cls ≠ "java/lang/invoke/MethodHandle" ∧ (zX6_cheapestHoliday).1.cls ≠ "java/lang/invoke/VarHandle" ∧ (parseMethodDescriptor (zX6_cheapestHoliday).1.desc).map (fun d => d.parameters.length) = some 1 := by decide +kernel
abbrev zX6_noteNeeds : MI := (yX6_noteNeeds, cX6_noteNeeds, 2, none)
theorem cz_X6_noteNeeds : wz zX6_noteNeeds ∈ lw_g := lw_g_in (i := 502) (by decide +kernel) rfl
theorem iz_X6_noteNeeds : Cond.instanceMethod yX6_noteNeeds ∈ lw_g := lw_g_in (i := 501) (by decide +kernel) rfl
theorem vz_X6_noteNeeds : Cond.selects RX6 yX6_noteNeeds yX6_noteNeeds ∈ lw_g := lw_g_in (i := 20) (by decide +kernel) rfl
theorem dz_X6_noteNeeds : (zX6_noteNeeds).1.cls ≠ "java/lang/invoke/MethodHandle" ∧ (zX6_noteNeeds).1.cls ≠ "java/lang/invoke/VarHandle" ∧ (parseMethodDescriptor (zX6_noteNeeds).1.desc).map (fun d => d.parameters.length) = some 0 := by decide +kernel
abbrev zX6_shortageOf : MI := (yX6_shortageOf, cX6_shortageOf, 7, (some .int))
theorem cz_X6_shortageOf : wz zX6_shortageOf ∈ lw_g := lw_g_in (i := 506) (by decide +kernel) rfl
theorem iz_X6_shortageOf : Cond.instanceMethod yX6_shortageOf ∈ lw_g := lw_g_in (i := 505) (by decide +kernel) rfl
theorem vz_X6_shortageOf : Cond.selects RX6 yX6_shortageOf yX6_shortageOf ∈ lw_g := lw_g_in (i := 21) (by decide +kernel) rfl
theorem dz_X6_shortageOf : (zX6_shortageOf).1.cls ≠ "java/lang/invoke/MethodHandle" ∧ (zX6_shortageOf).1.cls ≠ "java/lang/invoke/VarHandle" ∧ (parseMethodDescriptor (zX6_shortageOf).1.desc).map (fun d => d.parameters.length) = some 3 := by decide +kernel
abbrev zX6_staffLeft : MI := (yX6_staffLeft, cX6_staffLeft, 7, (some .int))
theorem cz_X6_staffLeft : wz zX6_staffLeft ∈ lw_g := lw_g_in (i := 510) (by decide +kernel) rfl
theorem iz_X6_staffLeft : Cond.instanceMethod yX6_staffLeft ∈ lw_g := lw_g_in (i := 509) (by decide +kernel) rfl
theorem vz_X6_staffLeft : Cond.selects RX6 yX6_staffLeft yX6_staffLeft ∈ lw_g := lw_g_in (i := 22) (by decide +kernel) rfl
theorem dz_X6_staffLeft : (zX6_staffLeft).1.cls ≠ "java/lang/invoke/MethodHandle" ∧ (zX6_staffLeft).1.cls ≠ "java/lang/invoke/VarHandle" ∧ (parseMethodDescriptor (zX6_staffLeft).1.desc).map (fun d => d.parameters.length) = some 3 := by decide +kernel
abbrev zX6_leastCostBelow : MI := (yX6_leastCostBelow, cX6_leastCostBelow, 5, (some .int))
theorem cz_X6_leastCostBelow : wz zX6_leastCostBelow ∈ lw_g := lw_g_in (i := 532) (by decide +kernel) rfl
theorem iz_X6_leastCostBelow : Cond.instanceMethod yX6_leastCostBelow ∈ lw_g := lw_g_in (i := 531) (by decide +kernel) rfl
theorem vz_X6_leastCostBelow : Cond.selects RX6 yX6_leastCostBelow yX6_leastCostBelow ∈ lw_g := lw_g_in (i := 23) (by decide +kernel) rfl
theorem dz_X6_leastCostBelow : (zX6_leastCostBelow).1.cls ≠ "java/lang/invoke/MethodHandle" ∧ (zX6_leastCostBelow).1.cls ≠ "java/lang/invoke/VarHandle" ∧ (parseMethodDescriptor (zX6_leastCostBelow).1.desc).map (fun d => d.parameters.length) = some 3 := by decide +kernel
abbrev zX6_isDay : MI := (yX6_isDay, cX6_isDay, 1, (some .boolean))
theorem cz_X6_isDay : wz zX6_isDay ∈ lw_g := lw_g_in (i := 181) (by decide +kernel) rfl
theorem sz_X6_isDay : Cond.static yX6_isDay ∈ lw_g := lw_g_in (i := 180) (by decide +kernel) rfl
theorem dz_X6_isDay : (zX6_isDay).1.cls ≠ "java/lang/invoke/MethodHandle" ∧ (zX6_isDay).1.cls ≠ "java/lang/invoke/VarHandle" ∧ (parseMethodDescriptor (zX6_isDay).1.desc).map (fun d => d.parameters.length) = some 1 := by decide +kernel
abbrev zX6_isHour : MI := (yX6_isHour, cX6_isHour, 1, (some .boolean))
theorem cz_X6_isHour : wz zX6_isHour ∈ lw_g := lw_g_in (i := 460) (by decide +kernel) rfl
theorem sz_X6_isHour : Cond.static yX6_isHour ∈ lw_g := lw_g_in (i := 459) (by decide +kernel) rfl
theorem dz_X6_isHour : (zX6_isHour).1.cls ≠ "java/lang/invoke/MethodHandle" ∧ (zX6_isHour).1.cls ≠ "java/lang/invoke/VarHandle" ∧ (parseMethodDescriptor (zX6_isHour).1.desc).map (fun d => d.parameters.length) = some 1 := by decide +kernel
abbrev zX6_isWeek : MI := (yX6_isWeek, cX6_isWeek, 1, (some .boolean))
theorem cz_X6_isWeek : wz zX6_isWeek ∈ lw_g := lw_g_in (i := 311) (by decide +kernel) rfl
theorem sz_X6_isWeek : Cond.static yX6_isWeek ∈ lw_g := lw_g_in (i := 310) (by decide +kernel) rfl
theorem dz_X6_isWeek : (zX6_isWeek).1.cls ≠ "java/lang/invoke/MethodHandle" ∧ (zX6_isWeek).1.cls ≠ "java/lang/invoke/VarHandle" ∧ (parseMethodDescriptor (zX6_isWeek).1.desc).map (fun d => d.parameters.length) = some 1 := by decide +kernel
abbrev zX6_isGroup : MI := (yX6_isGroup, cX6_isGroup, 1, (some .boolean))
theorem cz_X6_isGroup : wz zX6_isGroup ∈ lw_g := lw_g_in (i := 224) (by decide +kernel) rfl
theorem sz_X6_isGroup : Cond.static yX6_isGroup ∈ lw_g := lw_g_in (i := 223) (by decide +kernel) rfl
theorem dz_X6_isGroup : (zX6_isGroup).1.cls ≠ "java/lang/invoke/MethodHandle" ∧ (zX6_isGroup).1.cls ≠ "java/lang/invoke/VarHandle" ∧ (parseMethodDescriptor (zX6_isGroup).1.desc).map (fun d => d.parameters.length) = some 1 := by decide +kernel
abbrev zX6_isSpan : MI := (yX6_isSpan, cX6_isSpan, 2, (some .boolean))
theorem cz_X6_isSpan : wz zX6_isSpan ∈ lw_g := lw_g_in (i := 184) (by decide +kernel) rfl
theorem sz_X6_isSpan : Cond.static yX6_isSpan ∈ lw_g := lw_g_in (i := 183) (by decide +kernel) rfl
theorem dz_X6_isSpan : (zX6_isSpan).1.cls ≠ "java/lang/invoke/MethodHandle" ∧ (zX6_isSpan).1.cls ≠ "java/lang/invoke/VarHandle" ∧ (parseMethodDescriptor (zX6_isSpan).1.desc).map (fun d => d.parameters.length) = some 2 := by decide +kernel
abbrev zX6_hourOfWeek : MI := (yX6_hourOfWeek, cX6_hourOfWeek, 2, (some .int))
theorem cz_X6_hourOfWeek : wz zX6_hourOfWeek ∈ lw_g := lw_g_in (i := 193) (by decide +kernel) rfl
theorem sz_X6_hourOfWeek : Cond.static yX6_hourOfWeek ∈ lw_g := lw_g_in (i := 192) (by decide +kernel) rfl
theorem dz_X6_hourOfWeek : (zX6_hourOfWeek).1.cls ≠ "java/lang/invoke/MethodHandle" ∧ (zX6_hourOfWeek).1.cls ≠ "java/lang/invoke/VarHandle" ∧ (parseMethodDescriptor (zX6_hourOfWeek).1.desc).map (fun d => d.parameters.length) = some 2 := by decide +kernel
abbrev zX6_hasHour : MI := (yX6_hasHour, cX6_hasHour, 3, (some .boolean))
theorem cz_X6_hasHour : wz zX6_hasHour ∈ lw_g := lw_g_in (i := 205) (by decide +kernel) rfl
theorem sz_X6_hasHour : Cond.static yX6_hasHour ∈ lw_g := lw_g_in (i := 204) (by decide +kernel) rfl
theorem dz_X6_hasHour : (zX6_hasHour).1.cls ≠ "java/lang/invoke/MethodHandle" ∧ (zX6_hasHour).1.cls ≠ "java/lang/invoke/VarHandle" ∧ (parseMethodDescriptor (zX6_hasHour).1.desc).map (fun d => d.parameters.length) = some 2 := by decide +kernel
abbrev zX6_spanOf : MI := (yX6_spanOf, cX6_spanOf, 5, (some .long))
theorem cz_X6_spanOf : wz zX6_spanOf ∈ lw_g := lw_g_in (i := 190) (by decide +kernel) rfl
theorem sz_X6_spanOf : Cond.static yX6_spanOf ∈ lw_g := lw_g_in (i := 189) (by decide +kernel) rfl
theorem dz_X6_spanOf : (zX6_spanOf).1.cls ≠ "java/lang/invoke/MethodHandle" ∧ (zX6_spanOf).1.cls ≠ "java/lang/invoke/VarHandle" ∧ (parseMethodDescriptor (zX6_spanOf).1.desc).map (fun d => d.parameters.length) = some 3 := by decide +kernel
abbrev zX6_withSpan : MI := (yX6_withSpan, cX6_withSpan, 5, (some .long))
theorem cz_X6_withSpan : wz zX6_withSpan ∈ lw_g := lw_g_in (i := 187) (by decide +kernel) rfl
theorem sz_X6_withSpan : Cond.static yX6_withSpan ∈ lw_g := lw_g_in (i := 186) (by decide +kernel) rfl
theorem dz_X6_withSpan : (zX6_withSpan).1.cls ≠ "java/lang/invoke/MethodHandle" ∧ (zX6_withSpan).1.cls ≠ "java/lang/invoke/VarHandle" ∧ (parseMethodDescriptor (zX6_withSpan).1.desc).map (fun d => d.parameters.length) = some 4 := by decide +kernel
abbrev zJ6_bitCount_0f7a4 : MI := (yJ6_bitCount_0f7a4, cJ6_bitCount_0f7a4, 1, (some .int))
theorem cz_J6_bitCount_0f7a4 : wz zJ6_bitCount_0f7a4 ∈ lw_g := lw_g_in (i := 551) (by decide +kernel) rfl
theorem sz_J6_bitCount_0f7a4 : Cond.static yJ6_bitCount_0f7a4 ∈ lw_g := lw_g_in (i := 550) (by decide +kernel) rfl
theorem dz_J6_bitCount_0f7a4 : (zJ6_bitCount_0f7a4).1.cls ≠ "java/lang/invoke/MethodHandle" ∧ (zJ6_bitCount_0f7a4).1.cls ≠ "java/lang/invoke/VarHandle" ∧ (parseMethodDescriptor (zJ6_bitCount_0f7a4).1.desc).map (fun d => d.parameters.length) = some 1 := by decide +kernel
abbrev zJ13_bitCount_95d88 : MI := (yJ13_bitCount_95d88, cJ13_bitCount_95d88, 2, (some .int))
theorem cz_J13_bitCount_95d88 : wz zJ13_bitCount_95d88 ∈ lw_g := lw_g_in (i := 247) (by decide +kernel) rfl
theorem sz_J13_bitCount_95d88 : Cond.static yJ13_bitCount_95d88 ∈ lw_g := lw_g_in (i := 246) (by decide +kernel) rfl
theorem dz_J13_bitCount_95d88 : (zJ13_bitCount_95d88).1.cls ≠ "java/lang/invoke/MethodHandle" ∧ (zJ13_bitCount_95d88).1.cls ≠ "java/lang/invoke/VarHandle" ∧ (parseMethodDescriptor (zJ13_bitCount_95d88).1.desc).map (fun d => d.parameters.length) = some 1 := by decide +kernel
abbrev zJ9_max_7cf53 : MI := (yJ9_max_7cf53, cJ9_max_7cf53, 2, (some .int))
theorem cz_J9_max_7cf53 : wz zJ9_max_7cf53 ∈ lw_g := lw_g_in (i := 517) (by decide +kernel) rfl
theorem sz_J9_max_7cf53 : Cond.static yJ9_max_7cf53 ∈ lw_g := lw_g_in (i := 516) (by decide +kernel) rfl
theorem dz_J9_max_7cf53 : (zJ9_max_7cf53).1.cls ≠ "java/lang/invoke/MethodHandle" ∧ (zJ9_max_7cf53).1.cls ≠ "java/lang/invoke/VarHandle" ∧ (parseMethodDescriptor (zJ9_max_7cf53).1.desc).map (fun d => d.parameters.length) = some 2 := by decide +kernel
abbrev zL_cell : MI := (yL_cell, cL_cell, 2, (some .int))
theorem cz_L_cell : wz zL_cell ∈ lw_g := lw_g_in (i := 355) (by decide +kernel) rfl
theorem sz_L_cell : Cond.static yL_cell ∈ lw_g := lw_g_in (i := 354) (by decide +kernel) rfl
theorem dz_L_cell : (zL_cell).1.cls ≠ "java/lang/invoke/MethodHandle" ∧ (zL_cell).1.cls ≠ "java/lang/invoke/VarHandle" ∧ (parseMethodDescriptor (zL_cell).1.desc).map (fun d => d.parameters.length) = some 2 := by decide +kernel
abbrev zL_low : MI := (yL_low, cL_low, 2, (some .int))
theorem cz_L_low : wz zL_low ∈ lw_g := lw_g_in (i := 360) (by decide +kernel) rfl
theorem sz_L_low : Cond.static yL_low ∈ lw_g := lw_g_in (i := 359) (by decide +kernel) rfl
theorem dz_L_low : (zL_low).1.cls ≠ "java/lang/invoke/MethodHandle" ∧ (zL_low).1.cls ≠ "java/lang/invoke/VarHandle" ∧ (parseMethodDescriptor (zL_low).1.desc).map (fun d => d.parameters.length) = some 2 := by decide +kernel
abbrev zL_group : MI := (yL_group, cL_group, 1, (some .int))
theorem cz_L_group : wz zL_group ∈ lw_g := lw_g_in (i := 379) (by decide +kernel) rfl
theorem sz_L_group : Cond.static yL_group ∈ lw_g := lw_g_in (i := 378) (by decide +kernel) rfl
theorem dz_L_group : (zL_group).1.cls ≠ "java/lang/invoke/MethodHandle" ∧ (zL_group).1.cls ≠ "java/lang/invoke/VarHandle" ∧ (parseMethodDescriptor (zL_group).1.desc).map (fun d => d.parameters.length) = some 1 := by decide +kernel
abbrev zL_in : MI := (yL_in, cL_in, 4, (some .boolean))
theorem cz_L_in : wz zL_in ∈ lw_g := lw_g_in (i := 364) (by decide +kernel) rfl
theorem sz_L_in : Cond.static yL_in ∈ lw_g := lw_g_in (i := 363) (by decide +kernel) rfl
theorem dz_L_in : (zL_in).1.cls ≠ "java/lang/invoke/MethodHandle" ∧ (zL_in).1.cls ≠ "java/lang/invoke/VarHandle" ∧ (parseMethodDescriptor (zL_in).1.desc).map (fun d => d.parameters.length) = some 4 := by decide +kernel
abbrev zL_hours : MI := (yL_hours, cL_hours, 5, (some .int))
theorem cz_L_hours : wz zL_hours ∈ lw_g := lw_g_in (i := 367) (by decide +kernel) rfl
theorem sz_L_hours : Cond.static yL_hours ∈ lw_g := lw_g_in (i := 366) (by decide +kernel) rfl
theorem dz_L_hours : (zL_hours).1.cls ≠ "java/lang/invoke/MethodHandle" ∧ (zL_hours).1.cls ≠ "java/lang/invoke/VarHandle" ∧ (parseMethodDescriptor (zL_hours).1.desc).map (fun d => d.parameters.length) = some 2 := by decide +kernel
abbrev zL_need : MI := (yL_need, cL_need, 8, (some .int))
theorem cz_L_need : wz zL_need ∈ lw_g := lw_g_in (i := 376) (by decide +kernel) rfl
theorem sz_L_need : Cond.static yL_need ∈ lw_g := lw_g_in (i := 375) (by decide +kernel) rfl
theorem dz_L_need : (zL_need).1.cls ≠ "java/lang/invoke/MethodHandle" ∧ (zL_need).1.cls ≠ "java/lang/invoke/VarHandle" ∧ (parseMethodDescriptor (zL_need).1.desc).map (fun d => d.parameters.length) = some 5 := by decide +kernel
abbrev zL_present : MI := (yL_present, cL_present, 7, (some .int))
theorem cz_L_present : wz zL_present ∈ lw_g := lw_g_in (i := 373) (by decide +kernel) rfl
theorem sz_L_present : Cond.static yL_present ∈ lw_g := lw_g_in (i := 372) (by decide +kernel) rfl
theorem dz_L_present : (zL_present).1.cls ≠ "java/lang/invoke/MethodHandle" ∧ (zL_present).1.cls ≠ "java/lang/invoke/VarHandle" ∧ (parseMethodDescriptor (zL_present).1.desc).map (fun d => d.parameters.length) = some 5 := by decide +kernel
abbrev zL_staff : MI := (yL_staff, cL_staff, 8, (some .int))
theorem cz_L_staff : wz zL_staff ∈ lw_g := lw_g_in (i := 382) (by decide +kernel) rfl
theorem sz_L_staff : Cond.static yL_staff ∈ lw_g := lw_g_in (i := 381) (by decide +kernel) rfl
theorem dz_L_staff : (zL_staff).1.cls ≠ "java/lang/invoke/MethodHandle" ∧ (zL_staff).1.cls ≠ "java/lang/invoke/VarHandle" ∧ (parseMethodDescriptor (zL_staff).1.desc).map (fun d => d.parameters.length) = some 6 := by decide +kernel
abbrev zL_safe : MI := (yL_safe, cL_safe, 7, (some .boolean))
theorem cz_L_safe : wz zL_safe ∈ lw_g := lw_g_in (i := 370) (by decide +kernel) rfl
theorem sz_L_safe : Cond.static yL_safe ∈ lw_g := lw_g_in (i := 369) (by decide +kernel) rfl
theorem dz_L_safe : (zL_safe).1.cls ≠ "java/lang/invoke/MethodHandle" ∧ (zL_safe).1.cls ≠ "java/lang/invoke/VarHandle" ∧ (parseMethodDescriptor (zL_safe).1.desc).map (fun d => d.parameters.length) = some 7 := by decide +kernel
abbrev zL_points : MI := (yL_points, cL_points, 6, (some .int))
theorem cz_L_points : wz zL_points ∈ lw_g := lw_g_in (i := 391) (by decide +kernel) rfl
theorem sz_L_points : Cond.static yL_points ∈ lw_g := lw_g_in (i := 390) (by decide +kernel) rfl
theorem dz_L_points : (zL_points).1.cls ≠ "java/lang/invoke/MethodHandle" ∧ (zL_points).1.cls ≠ "java/lang/invoke/VarHandle" ∧ (parseMethodDescriptor (zL_points).1.desc).map (fun d => d.parameters.length) = some 4 := by decide +kernel
abbrev zL_before : MI := (yL_before, cL_before, 6, (some .boolean))
theorem cz_L_before : wz zL_before ∈ lw_g := lw_g_in (i := 388) (by decide +kernel) rfl
theorem sz_L_before : Cond.static yL_before ∈ lw_g := lw_g_in (i := 387) (by decide +kernel) rfl
theorem dz_L_before : (zL_before).1.cls ≠ "java/lang/invoke/MethodHandle" ∧ (zL_before).1.cls ≠ "java/lang/invoke/VarHandle" ∧ (parseMethodDescriptor (zL_before).1.desc).map (fun d => d.parameters.length) = some 5 := by decide +kernel
abbrev zL_next : MI := (yL_next, cL_next, 10, (some .int))
theorem cz_L_next : wz zL_next ∈ lw_g := lw_g_in (i := 385) (by decide +kernel) rfl
theorem sz_L_next : Cond.static yL_next ∈ lw_g := lw_g_in (i := 384) (by decide +kernel) rfl
