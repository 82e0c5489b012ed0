theorem dz_L_next : (zL_next).1.cls ≠ "java/lang/invoke/MethodHandle" ∧ (zL_next).1.cls ≠ "java/lang/invoke/VarHandle" ∧ (parseMethodDescriptor (zL_next).1.desc).map (fun d => d.parameters.length) = some 5 := by decide +kernel
abbrev zL_fee : MI := (yL_fee, cL_fee, 6, (some .int))
theorem cz_L_fee : wz zL_fee ∈ lw_g := lw_g_in (i := 437) (by decide +kernel) rfl
theorem sz_L_fee : Cond.static yL_fee ∈ lw_g := lw_g_in (i := 436) (by decide +kernel) rfl
theorem dz_L_fee : (zL_fee).1.cls ≠ "java/lang/invoke/MethodHandle" ∧ (zL_fee).1.cls ≠ "java/lang/invoke/VarHandle" ∧ (parseMethodDescriptor (zL_fee).1.desc).map (fun d => d.parameters.length) = some 4 := by decide +kernel
abbrev zL_same : MI := (yL_same, cL_same, 13, (some .boolean))
theorem cz_L_same : wz zL_same ∈ lw_g := List.mem_filter.mpr ⟨List.mem_append_right _ (List.mem_append_right _ (List.mem_append_left _ (List.mem_of_getElem? (i := 126) rfl))), rfl⟩
theorem sz_L_same : Cond.static yL_same ∈ lw_g := lw_g_in (i := 393) (by decide +kernel) rfl
theorem dz_L_same : (zL_same).1.cls ≠ "java/lang/invoke/MethodHandle" ∧ (zL_same).1.cls ≠ "java/lang/invoke/VarHandle" ∧ (parseMethodDescriptor (zL_same).1.desc).map (fun d => d.parameters.length) = some 6 := by decide +kernel
abbrev zL_shortage : MI := (yL_shortage, cL_shortage, 10, (some .int))
theorem cz_L_shortage : wz zL_shortage ∈ lw_g := lw_g_in (i := 520) (by decide +kernel) rfl
theorem sz_L_shortage : Cond.static yL_shortage ∈ lw_g := lw_g_in (i := 519) (by decide +kernel) rfl
theorem dz_L_shortage : (zL_shortage).1.cls ≠ "java/lang/invoke/MethodHandle" ∧ (zL_shortage).1.cls ≠ "java/lang/invoke/VarHandle" ∧ (parseMethodDescriptor (zL_shortage).1.desc).map (fun d => d.parameters.length) = some 7 := by decide +kernel
abbrev zL_cover : MI := (yL_cover, cL_cover, 19, (some .int))
theorem cz_L_cover : wz zL_cover ∈ lw_g := lw_g_in (i := 523) (by decide +kernel) rfl
theorem sz_L_cover : Cond.static yL_cover ∈ lw_g := lw_g_in (i := 522) (by decide +kernel) rfl
theorem dz_L_cover : (zL_cover).1.cls ≠ "java/lang/invoke/MethodHandle" ∧ (zL_cover).1.cls ≠ "java/lang/invoke/VarHandle" ∧ (parseMethodDescriptor (zL_cover).1.desc).map (fun d => d.parameters.length) = some 9 := by decide +kernel
abbrev zL_covered : MI := (yL_covered, cL_covered, 15, (some .boolean))
theorem cz_L_covered : wz zL_covered ∈ lw_g := lw_g_in (i := 494) (by decide +kernel) rfl
theorem sz_L_covered : Cond.static yL_covered ∈ lw_g := lw_g_in (i := 493) (by decide +kernel) rfl
theorem dz_L_covered : (zL_covered).1.cls ≠ "java/lang/invoke/MethodHandle" ∧ (zL_covered).1.cls ≠ "java/lang/invoke/VarHandle" ∧ (parseMethodDescriptor (zL_covered).1.desc).map (fun d => d.parameters.length) = some 8 := by decide +kernel
abbrev zL_span : MI := (yL_span, cL_span, 5, (some .boolean))
theorem cz_L_span : wz zL_span ∈ lw_g := lw_g_in (i := 580) (by decide +kernel) rfl
theorem sz_L_span : Cond.static yL_span ∈ lw_g := lw_g_in (i := 579) (by decide +kernel) rfl
theorem dz_L_span : (zL_span).1.cls ≠ "java/lang/invoke/MethodHandle" ∧ (zL_span).1.cls ≠ "java/lang/invoke/VarHandle" ∧ (parseMethodDescriptor (zL_span).1.desc).map (fun d => d.parameters.length) = some 4 := by decide +kernel
theorem in_X0 : Cond.initialized RX0 ∈ lw_g := lw_g_in (i := 35) (by decide +kernel) rfl
theorem in_X1 : Cond.initialized RX1 ∈ lw_g := lw_g_in (i := 31) (by decide +kernel) rfl
theorem in_X2 : Cond.initialized RX2 ∈ lw_g := lw_g_in (i := 33) (by decide +kernel) rfl
theorem in_X3 : Cond.initialized RX3 ∈ lw_g := lw_g_in (i := 32) (by decide +kernel) rfl
theorem in_X4 : Cond.initialized RX4 ∈ lw_g := lw_g_in (i := 30) (by decide +kernel) rfl
theorem in_X5 : Cond.initialized RX5 ∈ lw_g := lw_g_in (i := 36) (by decide +kernel) rfl
theorem in_X6 : Cond.initialized RX6 ∈ lw_g := lw_g_in (i := 29) (by decide +kernel) rfl
theorem in_J6 : Cond.initialized RJ6 ∈ lw_g := lw_g_in (i := 38) (by decide +kernel) rfl
theorem in_J13 : Cond.initialized RJ13 ∈ lw_g := lw_g_in (i := 34) (by decide +kernel) rfl
theorem in_J9 : Cond.initialized RJ9 ∈ lw_g := lw_g_in (i := 37) (by decide +kernel) rfl
theorem in_L : Cond.initialized RL ∈ lw_g := lw_g_in (i := 28) (by decide +kernel) rfl
theorem ly_X0 : ∀ w ∈ u_ws RX0 TX0 5, w ∈ lw_g := lays_in [160, 162, 164, 166, 168] (by decide +kernel) (by decide +kernel)
theorem ly_X1 : ∀ w ∈ u_ws RX1 TX1 6, w ∈ lw_g := lays_in [83, 85, 87, 89, 91, 93] (by decide +kernel) (by decide +kernel)
theorem ly_X2 : ∀ w ∈ u_ws RX2 TX2 2, w ∈ lw_g := lays_in [291, 293] (by decide +kernel) (by decide +kernel)
theorem ly_X3 : ∀ w ∈ u_ws RX3 TX3 1, w ∈ lw_g := lays_in [103] (by decide +kernel) (by decide +kernel)
theorem ly_X4 : ∀ w ∈ u_ws RX4 TX4 3, w ∈ lw_g := lays_in [58, 60, 62] (by decide +kernel) (by decide +kernel)
theorem ly_X5 : ∀ w ∈ u_ws RX5 TX5 4, w ∈ lw_g := lays_in [344, 346, 348, 350] (by decide +kernel) (by decide +kernel)
theorem ly_X6 : ∀ w ∈ u_ws RX6 TX6 12, w ∈ lw_g := lays_in [118, 120, 122, 124, 126, 128, 130, 132, 134, 136, 138, 140] (by decide +kernel) (by decide +kernel)
theorem c_L_48 : Cond.classLink RL 48 RX6 ∈ lw_g := lw_g_in (i := 39) (by decide +kernel) rfl
theorem n_X6 : Cond.instantiable RX6 12 ∈ lw_g := lw_g_in (i := 40) (by decide +kernel) rfl
theorem c_X6_9 : Cond.classLink RX6 9 RX0 ∈ lw_g := lw_g_in (i := 47) (by decide +kernel) rfl
theorem ao_X0 : Cond.arrayOver (.object RX0) ∈ lw_tbl := List.mem_of_getElem? (i := 48) (by decide +kernel)
theorem c_X6_15 : Cond.classLink RX6 15 RX2 ∈ lw_g := lw_g_in (i := 49) (by decide +kernel) rfl
theorem ao_X2 : Cond.arrayOver (.object RX2) ∈ lw_tbl := List.mem_of_getElem? (i := 50) (by decide +kernel)
theorem c_X6_38 : Cond.classLink RX6 38 RX4 ∈ lw_g := lw_g_in (i := 51) (by decide +kernel) rfl
theorem n_X4 : Cond.instantiable RX4 3 ∈ lw_g := lw_g_in (i := 52) (by decide +kernel) rfl
theorem f_X4_9 : Cond.fieldLink RX4 9 RX4 "signs" "[C" ∈ lw_g := lw_g_in (i := 57) (by decide +kernel) rfl
theorem ac_int : Cond.arrayClass .int ∈ lw_g := lw_g_in (i := 65) (by decide +kernel) rfl
theorem ac_char : Cond.arrayClass .char ∈ lw_g := lw_g_in (i := 66) (by decide +kernel) rfl
theorem c_X6_45 : Cond.classLink RX6 45 RX1 ∈ lw_g := lw_g_in (i := 67) (by decide +kernel) rfl
theorem n_X1 : Cond.instantiable RX1 6 ∈ lw_g := lw_g_in (i := 68) (by decide +kernel) rfl
theorem c_X1_9 : Cond.classLink RX1 9 RX5 ∈ lw_g := lw_g_in (i := 73) (by decide +kernel) rfl
theorem ao_X5 : Cond.arrayOver (.object RX5) ∈ lw_tbl := List.mem_of_getElem? (i := 74) (by decide +kernel)
theorem f_X1_11 : Cond.fieldLink RX1 11 RX1 "substitutes" "[LKindergartenPlanner$Substitute;" ∈ lw_g := lw_g_in (i := 75) (by decide +kernel) rfl
theorem f_X1_27 : Cond.fieldLink RX1 27 RX1 "count" "I" ∈ lw_g := lw_g_in (i := 76) (by decide +kernel) rfl
theorem f_X1_17 : Cond.fieldLink RX1 17 RX1 "sets" "[I" ∈ lw_g := lw_g_in (i := 77) (by decide +kernel) rfl
theorem f_X1_34 : Cond.fieldLink RX1 34 RX1 "bestCost" "I" ∈ lw_g := lw_g_in (i := 78) (by decide +kernel) rfl
theorem f_X1_21 : Cond.fieldLink RX1 21 RX1 "shortages" "[I" ∈ lw_g := lw_g_in (i := 79) (by decide +kernel) rfl
theorem f_X6_263 : Cond.fieldLink RX6 263 RX1 "shortages" "[I" ∈ lw_g := lw_g_in (i := 80) (by decide +kernel) rfl
theorem f_X1_24 : Cond.fieldLink RX1 24 RX1 "bestSets" "[I" ∈ lw_g := lw_g_in (i := 81) (by decide +kernel) rfl
theorem f_X6_249 : Cond.fieldLink RX6 249 RX1 "bestSets" "[I" ∈ lw_g := lw_g_in (i := 82) (by decide +kernel) rfl
theorem c_X6_52 : Cond.classLink RX6 52 RX3 ∈ lw_g := lw_g_in (i := 96) (by decide +kernel) rfl
theorem n_X3 : Cond.instantiable RX3 1 ∈ lw_g := lw_g_in (i := 97) (by decide +kernel) rfl
theorem f_X3_9 : Cond.fieldLink RX3 9 RX3 "counts" "[I" ∈ lw_g := lw_g_in (i := 102) (by decide +kernel) rfl
theorem f_X6_11 : Cond.fieldLink RX6 11 RX6 "children" "[LKindergartenPlanner$Child;" ∈ lw_g := lw_g_in (i := 106) (by decide +kernel) rfl
theorem f_X6_17 : Cond.fieldLink RX6 17 RX6 "educators" "[LKindergartenPlanner$Educator;" ∈ lw_g := lw_g_in (i := 107) (by decide +kernel) rfl
theorem f_X6_21 : Cond.fieldLink RX6 21 RX6 "ratios" "[I" ∈ lw_g := lw_g_in (i := 108) (by decide +kernel) rfl
theorem f_X6_25 : Cond.fieldLink RX6 25 RX6 "rates" "[I" ∈ lw_g := lw_g_in (i := 109) (by decide +kernel) rfl
theorem f_X6_28 : Cond.fieldLink RX6 28 RX6 "roomLimit" "I" ∈ lw_g := lw_g_in (i := 110) (by decide +kernel) rfl
theorem f_X6_32 : Cond.fieldLink RX6 32 RX6 "month" "I" ∈ lw_g := lw_g_in (i := 111) (by decide +kernel) rfl
theorem f_X6_35 : Cond.fieldLink RX6 35 RX6 "keptCover" "[I" ∈ lw_g := lw_g_in (i := 112) (by decide +kernel) rfl
theorem f_X6_41 : Cond.fieldLink RX6 41 RX6 "sheet" "LKindergartenPlanner$Sheet;" ∈ lw_g := lw_g_in (i := 113) (by decide +kernel) rfl
theorem f_X6_48 : Cond.fieldLink RX6 48 RX6 "search" "LKindergartenPlanner$CoverSearch;" ∈ lw_g := lw_g_in (i := 114) (by decide +kernel) rfl
theorem f_X6_55 : Cond.fieldLink RX6 55 RX6 "heads" "LKindergartenPlanner$Headcount;" ∈ lw_g := lw_g_in (i := 115) (by decide +kernel) rfl
theorem f_X6_59 : Cond.fieldLink RX6 59 RX6 "priorities" "[I" ∈ lw_g := lw_g_in (i := 116) (by decide +kernel) rfl
theorem f_X6_62 : Cond.fieldLink RX6 62 RX6 "needs" "[I" ∈ lw_g := lw_g_in (i := 117) (by decide +kernel) rfl
theorem n_X0 : Cond.instantiable RX0 5 ∈ lw_g := lw_g_in (i := 147) (by decide +kernel) rfl
theorem f_X0_13 : Cond.fieldLink RX0 13 RX0 "family" "I" ∈ lw_g := lw_g_in (i := 152) (by decide +kernel) rfl
theorem f_X6_132 : Cond.fieldLink RX6 132 RX0 "family" "I" ∈ lw_g := lw_g_in (i := 153) (by decide +kernel) rfl
theorem f_X0_7 : Cond.fieldLink RX0 7 RX0 "months" "I" ∈ lw_g := lw_g_in (i := 154) (by decide +kernel) rfl
theorem f_X6_75 : Cond.fieldLink RX6 75 RX0 "months" "I" ∈ lw_g := lw_g_in (i := 155) (by decide +kernel) rfl
theorem f_X6_114 : Cond.fieldLink RX6 114 RX0 "monthsWaited" "I" ∈ lw_g := lw_g_in (i := 156) (by decide +kernel) rfl
theorem f_X6_78 : Cond.fieldLink RX6 78 RX0 "admitted" "Z" ∈ lw_g := lw_g_in (i := 157) (by decide +kernel) rfl
theorem f_X0_16 : Cond.fieldLink RX0 16 RX0 "booked" "J" ∈ lw_g := lw_g_in (i := 158) (by decide +kernel) rfl
theorem f_X6_93 : Cond.fieldLink RX6 93 RX0 "booked" "J" ∈ lw_g := lw_g_in (i := 159) (by decide +kernel) rfl
theorem k_X6_108 : Cond.constantLong RX6 108 (-1) ∈ lw_g := lw_g_in (i := 194) (by decide +kernel) rfl
theorem k_J13_314 : Cond.constantLong RJ13 314 6148914691236517205 ∈ lw_g := lw_g_in (i := 248) (by decide +kernel) rfl
theorem k_J13_316 : Cond.constantLong RJ13 316 3689348814741910323 ∈ lw_g := lw_g_in (i := 249) (by decide +kernel) rfl
theorem k_J13_318 : Cond.constantLong RJ13 318 1085102592571150095 ∈ lw_g := lw_g_in (i := 250) (by decide +kernel) rfl
theorem n_X2 : Cond.instantiable RX2 2 ∈ lw_g := lw_g_in (i := 283) (by decide +kernel) rfl
theorem f_X6_153 : Cond.fieldLink RX6 153 RX2 "working" "J" ∈ lw_g := lw_g_in (i := 288) (by decide +kernel) rfl
theorem f_X2_7 : Cond.fieldLink RX2 7 RX2 "holidays" "J" ∈ lw_g := lw_g_in (i := 289) (by decide +kernel) rfl
theorem f_X6_165 : Cond.fieldLink RX6 165 RX2 "holidays" "J" ∈ lw_g := lw_g_in (i := 290) (by decide +kernel) rfl
theorem n_X5 : Cond.instantiable RX5 4 ∈ lw_g := lw_g_in (i := 333) (by decide +kernel) rfl
theorem f_X5_7 : Cond.fieldLink RX5 7 RX5 "days" "I" ∈ lw_g := lw_g_in (i := 338) (by decide +kernel) rfl
theorem f_X5_13 : Cond.fieldLink RX5 13 RX5 "most" "I" ∈ lw_g := lw_g_in (i := 339) (by decide +kernel) rfl
theorem f_X5_16 : Cond.fieldLink RX5 16 RX5 "wage" "I" ∈ lw_g := lw_g_in (i := 340) (by decide +kernel) rfl
theorem f_X1_75 : Cond.fieldLink RX1 75 RX5 "wage" "I" ∈ lw_g := lw_g_in (i := 341) (by decide +kernel) rfl
theorem f_X5_19 : Cond.fieldLink RX5 19 RX5 "given" "I" ∈ lw_g := lw_g_in (i := 342) (by decide +kernel) rfl
theorem f_X1_72 : Cond.fieldLink RX1 72 RX5 "given" "I" ∈ lw_g := lw_g_in (i := 343) (by decide +kernel) rfl
theorem k_L_7 : Cond.constant RL 7 876597683 ∈ lw_g := lw_g_in (i := 356) (by decide +kernel) rfl
theorem k_L_8 : Cond.constant RL 8 2531011 ∈ lw_g := lw_g_in (i := 357) (by decide +kernel) rfl
theorem k_L_9 : Cond.constant RL 9 2147483647 ∈ lw_g := lw_g_in (i := 361) (by decide +kernel) rfl
theorem k_X6_194 : Cond.constantDouble RX6 194 13830554455654793216 ∈ lw_g := lw_g_in (i := 477) (by decide +kernel) rfl
theorem k_X6_245 : Cond.constant RX6 245 1000000 ∈ lw_g := lw_g_in (i := 528) (by decide +kernel) rfl
theorem k_J6_265 : Cond.constant RJ6 265 1431655765 ∈ lw_g := lw_g_in (i := 552) (by decide +kernel) rfl
theorem k_J6_266 : Cond.constant RJ6 266 858993459 ∈ lw_g := lw_g_in (i := 553) (by decide +kernel) rfl
theorem k_J6_267 : Cond.constant RJ6 267 252645135 ∈ lw_g := lw_g_in (i := 554) (by decide +kernel) rfl
theorem oi_i : Cond.instanceMethod objectInit ∈ lw_g := lw_g_in (i := 45) (by decide +kernel) rfl
theorem oi_c : Cond.code objectInit ⟨#[0xb1]⟩ 1 none ∈ lw_g := lw_g_in (i := 46) (by decide +kernel) rfl
theorem m_L_115 : CwI RL 115 0 zX6_init := ⟨lw_g_in (i := 41) (by decide +kernel) rfl, iz_X6_init, in_X6, cz_X6_init, dz_X6_init, rfl, rfl⟩
theorem ol_X6 : Cond.methodLink RX6 3 objectInit ∈ lw_g := lw_g_in (i := 44) (by decide +kernel) rfl
theorem m_X6_40 : CwIN RX6 40 0 zX4_init RX6 := ⟨lw_n_in (i := 53) (by decide +kernel) rfl, iz_X4_init, in_X4, cz_X4_init, dz_X4_init, rfl, rfl⟩
theorem ol_X4 : Cond.methodLink RX4 3 objectInit ∈ lw_g := lw_g_in (i := 56) (by decide +kernel) rfl
theorem m_X6_47 : CwIN RX6 47 0 zX1_init RX6 := ⟨lw_n_in (i := 69) (by decide +kernel) rfl, iz_X1_init, in_X1, cz_X1_init, dz_X1_init, rfl, rfl⟩
theorem ol_X1 : Cond.methodLink RX1 3 objectInit ∈ lw_g := lw_g_in (i := 72) (by decide +kernel) rfl
theorem m_X6_54 : CwIN RX6 54 0 zX3_init RX6 := ⟨lw_n_in (i := 98) (by decide +kernel) rfl, iz_X3_init, in_X3, cz_X3_init, dz_X3_init, rfl, rfl⟩
theorem ol_X3 : Cond.methodLink RX3 3 objectInit ∈ lw_g := lw_g_in (i := 101) (by decide +kernel) rfl
theorem m_L_140 : CwV RL 140 2 zX6_addChild := ⟨lw_g_in (i := 143) (by decide +kernel) rfl, iz_X6_addChild, vz_X6_addChild, in_X6, cz_X6_addChild, dz_X6_addChild⟩
theorem m_X6_65 : CwI RX6 65 2 zX0_init := ⟨lw_g_in (i := 148) (by decide +kernel) rfl, iz_X0_init, in_X0, cz_X0_init, dz_X0_init, rfl, rfl⟩
theorem ol_X0 : Cond.methodLink RX0 1 objectInit ∈ lw_g := lw_g_in (i := 151) (by decide +kernel) rfl
theorem m_L_146 : CwV RL 146 4 zX6_book := ⟨lw_g_in (i := 171) (by decide +kernel) rfl, iz_X6_book, vz_X6_book, in_X6, cz_X6_book, dz_X6_book⟩
theorem m_X6_68 : CwV RX6 68 1 zX6_childAt := ⟨lw_g_in (i := 175) (by decide +kernel) rfl, iz_X6_childAt, vz_X6_childAt, in_X6, cz_X6_childAt, dz_X6_childAt⟩
theorem m_X6_85 : CwS RX6 85 1 zX6_isDay := ⟨lw_g_in (i := 179) (by decide +kernel) rfl, sz_X6_isDay, in_X6, cz_X6_isDay, dz_X6_isDay⟩
theorem m_X6_89 : CwS RX6 89 2 zX6_isSpan := ⟨lw_g_in (i := 182) (by decide +kernel) rfl, sz_X6_isSpan, in_X6, cz_X6_isSpan, dz_X6_isSpan⟩
theorem m_X6_97 : CwS RX6 97 4 zX6_withSpan := ⟨lw_g_in (i := 185) (by decide +kernel) rfl, sz_X6_withSpan, in_X6, cz_X6_withSpan, dz_X6_withSpan⟩
theorem m_X6_306 : CwS RX6 306 3 zX6_spanOf := ⟨lw_g_in (i := 188) (by decide +kernel) rfl, sz_X6_spanOf, in_X6, cz_X6_spanOf, dz_X6_spanOf⟩
theorem m_X6_174 : CwS RX6 174 2 zX6_hourOfWeek := ⟨lw_g_in (i := 191) (by decide +kernel) rfl, sz_X6_hourOfWeek, in_X6, cz_X6_hourOfWeek, dz_X6_hourOfWeek⟩
theorem m_X6_101 : CwV RX6 101 2 zX6_rebook := ⟨lw_g_in (i := 195) (by decide +kernel) rfl, iz_X6_rebook, vz_X6_rebook, in_X6, cz_X6_rebook, dz_X6_rebook⟩
theorem m_X6_110 : CwV RX6 110 2 zX6_areSafeWith := ⟨lw_g_in (i := 199) (by decide +kernel) rfl, iz_X6_areSafeWith, vz_X6_areSafeWith, in_X6, cz_X6_areSafeWith, dz_X6_areSafeWith⟩
theorem m_X6_205 : CwS RX6 205 2 zX6_hasHour := ⟨lw_g_in (i := 203) (by decide +kernel) rfl, sz_X6_hasHour, in_X6, cz_X6_hasHour, dz_X6_hasHour⟩
theorem m_X6_178 : CwV RX6 178 1 zX6_countHeads := ⟨lw_g_in (i := 206) (by decide +kernel) rfl, iz_X6_countHeads, vz_X6_countHeads, in_X6, cz_X6_countHeads, dz_X6_countHeads⟩
theorem m_X6_202 : CwV RX6 202 0 zX3_clear := ⟨lw_g_in (i := 210) (by decide +kernel) rfl, iz_X3_clear, vz_X3_clear, in_X3, cz_X3_clear, dz_X3_clear⟩
theorem m_X6_209 : CwV RX6 209 0 zX0_group := ⟨lw_g_in (i := 214) (by decide +kernel) rfl, iz_X0_group, vz_X0_group, in_X0, cz_X0_group, dz_X0_group⟩
theorem m_X6_212 : CwV RX6 212 1 zX3_add := ⟨lw_g_in (i := 218) (by decide +kernel) rfl, iz_X3_add, vz_X3_add, in_X3, cz_X3_add, dz_X3_add⟩
theorem m_X3_15 : CwSN RX3 15 1 zX6_isGroup RX6 := ⟨lw_n_in (i := 222) (by decide +kernel) rfl, sz_X6_isGroup, in_X6, cz_X6_isGroup, dz_X6_isGroup⟩
theorem m_X6_191 : CwV RX6 191 1 zX6_areHeadsSafe := ⟨lw_g_in (i := 225) (by decide +kernel) rfl, iz_X6_areHeadsSafe, vz_X6_areHeadsSafe, in_X6, cz_X6_areHeadsSafe, dz_X6_areHeadsSafe⟩
theorem m_X6_182 : CwV RX6 182 0 zX3_total := ⟨lw_g_in (i := 229) (by decide +kernel) rfl, iz_X3_total, vz_X3_total, in_X3, cz_X3_total, dz_X3_total⟩
theorem m_X6_215 : CwV RX6 215 3 zX3_needAt := ⟨lw_g_in (i := 233) (by decide +kernel) rfl, iz_X3_needAt, vz_X3_needAt, in_X3, cz_X3_needAt, dz_X3_needAt⟩
theorem m_X6_188 : CwV RX6 188 1 zX6_staffIn := ⟨lw_g_in (i := 237) (by decide +kernel) rfl, iz_X6_staffIn, vz_X6_staffIn, in_X6, cz_X6_staffIn, dz_X6_staffIn⟩
theorem m_X6_82 : CwV RX6 82 0 zX0_bookedHours := ⟨lw_g_in (i := 241) (by decide +kernel) rfl, iz_X0_bookedHours, vz_X0_bookedHours, in_X0, cz_X0_bookedHours, dz_X0_bookedHours⟩
theorem m_X0_20 : CwS RX0 20 1 zJ13_bitCount_95d88 := ⟨lw_g_in (i := 245) (by decide +kernel) rfl, sz_J13_bitCount_95d88, in_J13, cz_J13_bitCount_95d88, dz_J13_bitCount_95d88⟩
theorem m_L_157 : CwV RL 157 0 zX6_admit := ⟨lw_g_in (i := 251) (by decide +kernel) rfl, iz_X6_admit, vz_X6_admit, in_X6, cz_X6_admit, dz_X6_admit⟩
theorem m_X6_128 : CwV RX6 128 0 zX6_firstThatCanBeAdmitted := ⟨lw_g_in (i := 255) (by decide +kernel) rfl, iz_X6_firstThatCanBeAdmitted, vz_X6_firstThatCanBeAdmitted, in_X6, cz_X6_firstThatCanBeAdmitted, dz_X6_firstThatCanBeAdmitted⟩
theorem m_X6_121 : CwV RX6 121 0 zX6_notePriorities := ⟨lw_g_in (i := 259) (by decide +kernel) rfl, iz_X6_notePriorities, vz_X6_notePriorities, in_X6, cz_X6_notePriorities, dz_X6_notePriorities⟩
theorem m_X6_138 : CwV RX6 138 2 zX6_priorityOf := ⟨lw_g_in (i := 263) (by decide +kernel) rfl, iz_X6_priorityOf, vz_X6_priorityOf, in_X6, cz_X6_priorityOf, dz_X6_priorityOf⟩
theorem m_X6_117 : CwV RX6 117 1 zX6_pointsOf := ⟨lw_g_in (i := 267) (by decide +kernel) rfl, iz_X6_pointsOf, vz_X6_pointsOf, in_X6, cz_X6_pointsOf, dz_X6_pointsOf⟩
theorem m_X6_135 : CwV RX6 135 1 zX6_hasAdmittedChild := ⟨lw_g_in (i := 271) (by decide +kernel) rfl, iz_X6_hasAdmittedChild, vz_X6_hasAdmittedChild, in_X6, cz_X6_hasAdmittedChild, dz_X6_hasAdmittedChild⟩
theorem m_X6_142 : CwV RX6 142 1 zX6_canBeAdmitted := ⟨lw_g_in (i := 275) (by decide +kernel) rfl, iz_X6_canBeAdmitted, vz_X6_canBeAdmitted, in_X6, cz_X6_canBeAdmitted, dz_X6_canBeAdmitted⟩
theorem m_L_129 : CwV RL 129 0 zX6_addEducator := ⟨lw_g_in (i := 279) (by decide +kernel) rfl, iz_X6_addEducator, vz_X6_addEducator, in_X6, cz_X6_addEducator, dz_X6_addEducator⟩
theorem m_X6_146 : CwIN RX6 146 0 zX2_init RX6 := ⟨lw_n_in (i := 284) (by decide +kernel) rfl, iz_X2_init, in_X2, cz_X2_init, dz_X2_init, rfl, rfl⟩
theorem ol_X2 : Cond.methodLink RX2 1 objectInit ∈ lw_g := lw_g_in (i := 287) (by decide +kernel) rfl
theorem m_L_132 : CwV RL 132 4 zX6_work := ⟨lw_g_in (i := 296) (by decide +kernel) rfl, iz_X6_work, vz_X6_work, in_X6, cz_X6_work, dz_X6_work⟩
theorem m_X6_147 : CwV RX6 147 1 zX6_educatorAt := ⟨lw_g_in (i := 300) (by decide +kernel) rfl, iz_X6_educatorAt, vz_X6_educatorAt, in_X6, cz_X6_educatorAt, dz_X6_educatorAt⟩
theorem m_X6_156 : CwS RX6 156 1 zJ13_bitCount_95d88 := ⟨lw_g_in (i := 304) (by decide +kernel) rfl, sz_J13_bitCount_95d88, in_J13, cz_J13_bitCount_95d88, dz_J13_bitCount_95d88⟩
theorem m_L_136 : CwV RL 136 3 zX6_setHoliday := ⟨lw_g_in (i := 305) (by decide +kernel) rfl, iz_X6_setHoliday, vz_X6_setHoliday, in_X6, cz_X6_setHoliday, dz_X6_setHoliday⟩
theorem m_X6_162 : CwS RX6 162 1 zX6_isWeek := ⟨lw_g_in (i := 309) (by decide +kernel) rfl, sz_X6_isWeek, in_X6, cz_X6_isWeek, dz_X6_isWeek⟩
theorem m_L_123 : CwV RL 123 2 zX6_setRatio := ⟨lw_g_in (i := 312) (by decide +kernel) rfl, iz_X6_setRatio, vz_X6_setRatio, in_X6, cz_X6_setRatio, dz_X6_setRatio⟩
theorem m_X6_168 : CwS RX6 168 1 zX6_isGroup := ⟨lw_g_in (i := 316) (by decide +kernel) rfl, sz_X6_isGroup, in_X6, cz_X6_isGroup, dz_X6_isGroup⟩
theorem m_L_120 : CwV RL 120 1 zX6_setRoomLimit := ⟨lw_g_in (i := 317) (by decide +kernel) rfl, iz_X6_setRoomLimit, vz_X6_setRoomLimit, in_X6, cz_X6_setRoomLimit, dz_X6_setRoomLimit⟩
theorem m_L_126 : CwV RL 126 2 zX6_setRate := ⟨lw_g_in (i := 321) (by decide +kernel) rfl, iz_X6_setRate, vz_X6_setRate, in_X6, cz_X6_setRate, dz_X6_setRate⟩
theorem m_L_160 : CwV RL 160 3 zX6_addSubstitute := ⟨lw_g_in (i := 325) (by decide +kernel) rfl, iz_X6_addSubstitute, vz_X6_addSubstitute, in_X6, cz_X6_addSubstitute, dz_X6_addSubstitute⟩
theorem m_X6_236 : CwV RX6 236 3 zX1_join := ⟨lw_g_in (i := 329) (by decide +kernel) rfl, iz_X1_join, vz_X1_join, in_X1, cz_X1_join, dz_X1_join⟩
theorem m_X1_31 : CwI RX1 31 3 zX5_init := ⟨lw_g_in (i := 334) (by decide +kernel) rfl, iz_X5_init, in_X5, cz_X5_init, dz_X5_init, rfl, rfl⟩
theorem ol_X5 : Cond.methodLink RX5 1 objectInit ∈ lw_g := lw_g_in (i := 337) (by decide +kernel) rfl
theorem m_L_116 : CwS RL 116 2 zL_cell := ⟨lw_g_in (i := 353) (by decide +kernel) rfl, sz_L_cell, in_L, cz_L_cell, dz_L_cell⟩
theorem m_L_112 : CwS RL 112 2 zL_low := ⟨lw_g_in (i := 358) (by decide +kernel) rfl, sz_L_low, in_L, cz_L_low, dz_L_low⟩
theorem m_L_10 : CwS RL 10 4 zL_in := ⟨lw_g_in (i := 362) (by decide +kernel) rfl, sz_L_in, in_L, cz_L_in, dz_L_in⟩
theorem m_L_31 : CwS RL 31 2 zL_hours := ⟨lw_g_in (i := 365) (by decide +kernel) rfl, sz_L_hours, in_L, cz_L_hours, dz_L_hours⟩
theorem m_L_39 : CwS RL 39 7 zL_safe := ⟨lw_g_in (i := 368) (by decide +kernel) rfl, sz_L_safe, in_L, cz_L_safe, dz_L_safe⟩
theorem m_L_20 : CwS RL 20 5 zL_present := ⟨lw_g_in (i := 371) (by decide +kernel) rfl, sz_L_present, in_L, cz_L_present, dz_L_present⟩
theorem m_L_24 : CwS RL 24 5 zL_need := ⟨lw_g_in (i := 374) (by decide +kernel) rfl, sz_L_need, in_L, cz_L_need, dz_L_need⟩
theorem m_L_16 : CwS RL 16 1 zL_group := ⟨lw_g_in (i := 377) (by decide +kernel) rfl, sz_L_group, in_L, cz_L_group, dz_L_group⟩
theorem m_L_27 : CwS RL 27 6 zL_staff := ⟨lw_g_in (i := 380) (by decide +kernel) rfl, sz_L_staff, in_L, cz_L_staff, dz_L_staff⟩
theorem m_L_153 : CwS RL 153 5 zL_next := ⟨lw_g_in (i := 383) (by decide +kernel) rfl, sz_L_next, in_L, cz_L_next, dz_L_next⟩
theorem m_L_43 : CwS RL 43 5 zL_before := ⟨lw_g_in (i := 386) (by decide +kernel) rfl, sz_L_before, in_L, cz_L_before, dz_L_before⟩
theorem m_L_35 : CwS RL 35 4 zL_points := ⟨lw_g_in (i := 389) (by decide +kernel) rfl, sz_L_points, in_L, cz_L_points, dz_L_points⟩
theorem m_L_149 : CwS RL 149 6 zL_same := ⟨lw_g_in (i := 392) (by decide +kernel) rfl, sz_L_same, in_L, cz_L_same, dz_L_same⟩
theorem m_L_47 : CwV RL 47 1 zX6_age := ⟨lw_g_in (i := 395) (by decide +kernel) rfl, iz_X6_age, vz_X6_age, in_X6, cz_X6_age, dz_X6_age⟩
theorem m_L_52 : CwV RL 52 1 zX6_isAdmitted := ⟨lw_g_in (i := 399) (by decide +kernel) rfl, iz_X6_isAdmitted, vz_X6_isAdmitted, in_X6, cz_X6_isAdmitted, dz_X6_isAdmitted⟩
theorem m_L_55 : CwV RL 55 1 zX6_hours := ⟨lw_g_in (i := 403) (by decide +kernel) rfl, iz_X6_hours, vz_X6_hours, in_X6, cz_X6_hours, dz_X6_hours⟩
theorem m_L_57 : CwV RL 57 1 zX6_points := ⟨lw_g_in (i := 407) (by decide +kernel) rfl, iz_X6_points, vz_X6_points, in_X6, cz_X6_points, dz_X6_points⟩
theorem m_L_59 : CwV RL 59 1 zX6_waited := ⟨lw_g_in (i := 411) (by decide +kernel) rfl, iz_X6_waited, vz_X6_waited, in_X6, cz_X6_waited, dz_X6_waited⟩
theorem m_L_62 : CwV RL 62 1 zX6_fee := ⟨lw_g_in (i := 415) (by decide +kernel) rfl, iz_X6_fee, vz_X6_fee, in_X6, cz_X6_fee, dz_X6_fee⟩
theorem m_X6_219 : CwV RX6 219 3 zX6_feeOf := ⟨lw_g_in (i := 419) (by decide +kernel) rfl, iz_X6_feeOf, vz_X6_feeOf, in_X6, cz_X6_feeOf, dz_X6_feeOf⟩
theorem m_X6_230 : CwV RX6 230 3 zX6_percentageOf := ⟨lw_g_in (i := 423) (by decide +kernel) rfl, iz_X6_percentageOf, vz_X6_percentageOf, in_X6, cz_X6_percentageOf, dz_X6_percentageOf⟩
theorem m_X6_233 : CwV RX6 233 3 zX6_rankOf := ⟨lw_g_in (i := 427) (by decide +kernel) rfl, iz_X6_rankOf, vz_X6_rankOf, in_X6, cz_X6_rankOf, dz_X6_rankOf⟩
theorem m_X6_226 : CwV RX6 226 3 zX6_pays := ⟨lw_g_in (i := 431) (by decide +kernel) rfl, iz_X6_pays, vz_X6_pays, in_X6, cz_X6_pays, dz_X6_pays⟩
theorem m_L_65 : CwS RL 65 4 zL_fee := ⟨lw_g_in (i := 435) (by decide +kernel) rfl, sz_L_fee, in_L, cz_L_fee, dz_L_fee⟩
theorem m_L_67 : CwV RL 67 1 zX6_waiting := ⟨lw_g_in (i := 438) (by decide +kernel) rfl, iz_X6_waiting, vz_X6_waiting, in_X6, cz_X6_waiting, dz_X6_waiting⟩
theorem m_X6_124 : CwV RX6 124 1 zX6_countAbove := ⟨lw_g_in (i := 442) (by decide +kernel) rfl, iz_X6_countAbove, vz_X6_countAbove, in_X6, cz_X6_countAbove, dz_X6_countAbove⟩
theorem m_L_70 : CwV RL 70 1 zX6_familyFeeIfAdmitted := ⟨lw_g_in (i := 446) (by decide +kernel) rfl, iz_X6_familyFeeIfAdmitted, vz_X6_familyFeeIfAdmitted, in_X6, cz_X6_familyFeeIfAdmitted, dz_X6_familyFeeIfAdmitted⟩
theorem m_X6_223 : CwV RX6 223 2 zX6_familyFee := ⟨lw_g_in (i := 450) (by decide +kernel) rfl, iz_X6_familyFee, vz_X6_familyFee, in_X6, cz_X6_familyFee, dz_X6_familyFee⟩
theorem m_L_73 : CwV RL 73 2 zX6_present := ⟨lw_g_in (i := 454) (by decide +kernel) rfl, iz_X6_present, vz_X6_present, in_X6, cz_X6_present, dz_X6_present⟩
theorem m_X6_171 : CwS RX6 171 1 zX6_isHour := ⟨lw_g_in (i := 458) (by decide +kernel) rfl, sz_X6_isHour, in_X6, cz_X6_isHour, dz_X6_isHour⟩
theorem m_L_76 : CwV RL 76 2 zX6_need := ⟨lw_g_in (i := 461) (by decide +kernel) rfl, iz_X6_need, vz_X6_need, in_X6, cz_X6_need, dz_X6_need⟩
theorem m_X6_185 : CwV RX6 185 1 zX6_needIn := ⟨lw_g_in (i := 465) (by decide +kernel) rfl, iz_X6_needIn, vz_X6_needIn, in_X6, cz_X6_needIn, dz_X6_needIn⟩
theorem m_L_78 : CwV RL 78 2 zX6_staff := ⟨lw_g_in (i := 469) (by decide +kernel) rfl, iz_X6_staff, vz_X6_staff, in_X6, cz_X6_staff, dz_X6_staff⟩
theorem m_L_80 : CwV RL 80 1 zX6_load := ⟨lw_g_in (i := 473) (by decide +kernel) rfl, iz_X6_load, vz_X6_load, in_X6, cz_X6_load, dz_X6_load⟩
theorem m_X6_196 : CwV RX6 196 2 zX6_present := ⟨lw_g_in (i := 478) (by decide +kernel) rfl, iz_X6_present, vz_X6_present, in_X6, cz_X6_present, dz_X6_present⟩
theorem m_X6_199 : CwV RX6 199 2 zX6_staff := ⟨lw_g_in (i := 479) (by decide +kernel) rfl, iz_X6_staff, vz_X6_staff, in_X6, cz_X6_staff, dz_X6_staff⟩
theorem m_L_84 : CwV RL 84 0 zX6_income := ⟨lw_g_in (i := 480) (by decide +kernel) rfl, iz_X6_income, vz_X6_income, in_X6, cz_X6_income, dz_X6_income⟩
theorem m_L_88 : CwV RL 88 0 zX6_unsafeHours := ⟨lw_g_in (i := 484) (by decide +kernel) rfl, iz_X6_unsafeHours, vz_X6_unsafeHours, in_X6, cz_X6_unsafeHours, dz_X6_unsafeHours⟩
theorem m_L_91 : CwV RL 91 0 zX6_children := ⟨lw_g_in (i := 488) (by decide +kernel) rfl, iz_X6_children, vz_X6_children, in_X6, cz_X6_children, dz_X6_children⟩
theorem m_L_164 : CwS RL 164 8 zL_covered := ⟨lw_g_in (i := 492) (by decide +kernel) rfl, sz_L_covered, in_L, cz_L_covered, dz_L_covered⟩
theorem m_L_98 : CwV RL 98 2 zX6_shortage := ⟨lw_g_in (i := 495) (by decide +kernel) rfl, iz_X6_shortage, vz_X6_shortage, in_X6, cz_X6_shortage, dz_X6_shortage⟩
theorem m_X6_239 : CwV RX6 239 0 zX6_noteNeeds := ⟨lw_g_in (i := 499) (by decide +kernel) rfl, iz_X6_noteNeeds, vz_X6_noteNeeds, in_X6, cz_X6_noteNeeds, dz_X6_noteNeeds⟩
theorem m_X6_242 : CwV RX6 242 3 zX6_shortageOf := ⟨lw_g_in (i := 503) (by decide +kernel) rfl, iz_X6_shortageOf, vz_X6_shortageOf, in_X6, cz_X6_shortageOf, dz_X6_shortageOf⟩
theorem m_X6_255 : CwV RX6 255 3 zX6_staffLeft := ⟨lw_g_in (i := 507) (by decide +kernel) rfl, iz_X6_staffLeft, vz_X6_staffLeft, in_X6, cz_X6_staffLeft, dz_X6_staffLeft⟩
theorem m_X6_252 : CwV RX6 252 1 zX2_hasHoliday := ⟨lw_g_in (i := 511) (by decide +kernel) rfl, iz_X2_hasHoliday, vz_X2_hasHoliday, in_X2, cz_X2_hasHoliday, dz_X2_hasHoliday⟩
theorem m_X6_258 : CwS RX6 258 2 zJ9_max_7cf53 := ⟨lw_g_in (i := 515) (by decide +kernel) rfl, sz_J9_max_7cf53, in_J9, cz_J9_max_7cf53, dz_J9_max_7cf53⟩
theorem m_L_94 : CwS RL 94 7 zL_shortage := ⟨lw_g_in (i := 518) (by decide +kernel) rfl, sz_L_shortage, in_L, cz_L_shortage, dz_L_shortage⟩
theorem m_L_100 : CwS RL 100 9 zL_cover := ⟨lw_g_in (i := 521) (by decide +kernel) rfl, sz_L_cover, in_L, cz_L_cover, dz_L_cover⟩
theorem m_L_104 : CwV RL 104 1 zX6_cover := ⟨lw_g_in (i := 524) (by decide +kernel) rfl, iz_X6_cover, vz_X6_cover, in_X6, cz_X6_cover, dz_X6_cover⟩
theorem m_X6_246 : CwV RX6 246 3 zX6_leastCostBelow := ⟨lw_g_in (i := 529) (by decide +kernel) rfl, iz_X6_leastCostBelow, vz_X6_leastCostBelow, in_X6, cz_X6_leastCostBelow, dz_X6_leastCostBelow⟩
theorem m_X6_266 : CwV RX6 266 1 zX1_leastCostBelow := ⟨lw_g_in (i := 533) (by decide +kernel) rfl, iz_X1_leastCostBelow, vz_X1_leastCostBelow, in_X1, cz_X1_leastCostBelow, dz_X1_leastCostBelow⟩
theorem m_X1_37 : CwS RX1 37 3 zX1_coverFrom := ⟨lw_g_in (i := 537) (by decide +kernel) rfl, sz_X1_coverFrom, in_X1, cz_X1_coverFrom, dz_X1_coverFrom⟩
theorem m_X1_41 : CwSN RX1 41 1 zX6_isDay RX6 := ⟨lw_n_in (i := 540) (by decide +kernel) rfl, sz_X6_isDay, in_X6, cz_X6_isDay, dz_X6_isDay⟩
theorem m_X1_45 : CwV RX1 45 1 zX1_keepSets := ⟨lw_g_in (i := 541) (by decide +kernel) rfl, iz_X1_keepSets, vz_X1_keepSets, in_X1, cz_X1_keepSets, dz_X1_keepSets⟩
theorem m_X1_49 : CwV RX1 49 2 zX1_canGive := ⟨lw_g_in (i := 545) (by decide +kernel) rfl, iz_X1_canGive, vz_X1_canGive, in_X1, cz_X1_canGive, dz_X1_canGive⟩
theorem m_X1_61 : CwS RX1 61 1 zJ6_bitCount_0f7a4 := ⟨lw_g_in (i := 549) (by decide +kernel) rfl, sz_J6_bitCount_0f7a4, in_J6, cz_J6_bitCount_0f7a4, dz_J6_bitCount_0f7a4⟩
theorem m_X1_66 : CwS RX1 66 2 zX1_isIn := ⟨lw_g_in (i := 555) (by decide +kernel) rfl, sz_X1_isIn, in_X1, cz_X1_isIn, dz_X1_isIn⟩
theorem m_X1_69 : CwV RX1 69 1 zX5_canTake := ⟨lw_g_in (i := 558) (by decide +kernel) rfl, iz_X5_canTake, vz_X5_canTake, in_X5, cz_X5_canTake, dz_X5_canTake⟩
theorem m_X1_53 : CwV RX1 53 2 zX1_give := ⟨lw_g_in (i := 562) (by decide +kernel) rfl, iz_X1_give, vz_X1_give, in_X1, cz_X1_give, dz_X1_give⟩
theorem m_X1_57 : CwV RX1 57 1 zX1_wagesOf := ⟨lw_g_in (i := 566) (by decide +kernel) rfl, iz_X1_wagesOf, vz_X1_wagesOf, in_X1, cz_X1_wagesOf, dz_X1_wagesOf⟩
theorem m_L_106 : CwV RL 106 1 zX6_coverOf := ⟨lw_g_in (i := 570) (by decide +kernel) rfl, iz_X6_coverOf, vz_X6_coverOf, in_X6, cz_X6_coverOf, dz_X6_coverOf⟩
theorem m_L_109 : CwV RL 109 1 zX6_cheapestHoliday := ⟨lw_g_in (i := 574) (by decide +kernel) rfl, iz_X6_cheapestHoliday, vz_X6_cheapestHoliday, in_X6, cz_X6_cheapestHoliday, dz_X6_cheapestHoliday⟩
theorem m_L_143 : CwS RL 143 4 zL_span := ⟨lw_g_in (i := 578) (by decide +kernel) rfl, sz_L_span, in_L, cz_L_span, dz_L_span⟩

