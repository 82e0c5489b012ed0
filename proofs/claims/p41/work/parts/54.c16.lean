theorem hol_set {S : MS} {x w : Nat} {b : Bool} (i : Nat) : hoP (uM S 10 (52 * x + w) (ct b)) x i = (if b then hoP S x i || decide (i = w) else hoP S x i && !decide (i = w)) := by
  unfold hoP
  by_cases q : i = w
  · subst q
    rw [uM_eq]
    cases b <;> simp [ct]
  · rw [uM_ni (by omega)]
    cases b <;> simp [q]
theorem hol_cnt {S : MS} (hI : IV S) {x : Nat} (hx : x < 8) : sm (fun i => ct (hoP S x i)) 52 = holN S x := sm_congr (fun i hi => by
  have := hI.2.2.2.2.1 (52 * x + i) (by omega)
  unfold hoP
  rcases (show S 10 (52 * x + i) = 0 ∨ S 10 (52 * x + i) = 1 by omega) with q | q <;> rw [q] <;> rfl)
set_option maxRecDepth 100000 in
set_option maxHeartbeats 4000000 in
theorem m_X6_setHoliday {S : MS} {T : CT} {e : CE} (hR : RR S T e) (x y : Int32) (b : Bool) : CF zX6_setHoliday 16 2 0 0 [.int x, .int y, .int (bI b)] (T, e) (pR (holR S x y b) (holS S x y b)) := by
  intro D Y ad
  refine MT.of [(0, .ref (ad 16)), (1, .int x), (2, .int y), (3, .int (bI b))] (by decide) rfl (Nat.le_of_ble_eq_true rfl) ?_
  intro K hK X E
  refine j_aload_n X dX6_setHoliday_0 rfl 0 rfl ?_
  refine j_iload_n X dX6_setHoliday_1 rfl 1 rfl ?_
  refine jc_call16Q1 (mc := 0) (ms := 0) X hK (m_X6_educatorAt hR _) m_X6_147 rfl (by decide) (by decide) (Nat.le_of_ble_eq_true rfl) ⟨by decide, by decide⟩ dX6_setHoliday_2 ?_
  rintro _ _ ⟨rfl, (⟨c_2, a_2, l_2, rfl, x_2, q_2, r_2, m_2, p_2, rfl⟩ | ⟨x_2, rfl⟩)⟩
  · have cl_2 := nI_clamp (n := c_2) (by omega)
    have hx2 : tn (nI c_2) = c_2 := cl_2
    refine j_astore X [(4, _), (0, _), (1, _), (2, _), (3, _)] dX6_setHoliday_5 (by decide) rfl ?_
    refine j_aload X dX6_setHoliday_7 0 rfl ?_
    refine j_ifnull X dX6_setHoliday_9 ?_
    refine j_iload_n X dX6_setHoliday_12 rfl 3 rfl ?_
    refine jst_call1 X hK (m_X6_isWeek _) m_X6_162 (by decide) (by decide) (Nat.le_of_ble_eq_true rfl) ⟨by decide, by decide⟩ dX6_setHoliday_13 ?_
    refine b_if_ne (tgt := 21) X dX6_setHoliday_16 (by decide) (fun c_16 => ?_) (fun c_16 => ?_)
    · obtain ⟨w, hw, rfl⟩ := within_0 (by decide) c_16
      have tw : tn (nI w) = w := nI_clamp (by omega)
      have hok : (hasE S (nI c_2) && isWeekI (nI w)) = true := by rw [x_2, c_16]; rfl
      have hB2 : BD (uM S 10 (52 * c_2 + w) (ct b)) := BD_u hR.hB (by have := ct_le b; omega)
      have hI2 : IV (uM S 10 (52 * c_2 + w) (ct b)) := IV_hol hR.hI (ct_le b)
      refine j_lconst (v := lN 1) X dX6_setHoliday_21 (by decide) ?_
      refine j_iload_n X dX6_setHoliday_22 rfl 3 rfl ?_
      refine j_lshl X dX6_setHoliday_23 ?_
      rw [week_val (show w < 52 by omega)]
      refine j_lstore X [(5, _), (4, _), (0, _), (1, _), (2, _), (3, _)] dX6_setHoliday_24 (by decide) rfl ?_
      refine j_aload X dX6_setHoliday_26 1 rfl ?_
      refine j_iload_n X dX6_setHoliday_28 rfl 5 rfl ?_
      refine b_if_eq (tgt := 43) X dX6_setHoliday_29 (by decide) (fun c_29 => ?_) (fun c_29 => ?_)
      · refine j_aload X dX6_setHoliday_43 1 rfl ?_
        refine jc_pget X ly_X2 m_2 p_2 rfl 1 (by decide) f_X6_165 rfl dX6_setHoliday_45 ?_
        refine j_lload X dX6_setHoliday_48 0 rfl ?_
        refine j_ldc2 X k_X6_108 dX6_setHoliday_50 ?_
        refine j_lxor X dX6_setHoliday_53 ?_
        refine j_land X dX6_setHoliday_54 ?_
        rw [msk_less (by decide)]; have hmk : msk (fun i => hoP S c_2 i && !decide (i = w)) 52 = msk (hoP (uM S 10 (52 * c_2 + w) (ct b)) c_2) 52 := msk_congr (fun i hi => by rw [hol_set, c_29]; rfl); rw [hmk]
        refine jc_pput X ly_X2 tyX2 tyX2_ok nmX2 m_2 p_2 rfl 1 (by decide) f_X6_165 rfl rfl rfl rfl (Nat.le_of_ble_eq_true rfl) dX6_setHoliday_55 (fun e_55 ee_55 => ?_)
        have m_55 := mem_wP ee_55 m_2
        have p_55 := pos_wP ee_55
        have hce : e_55 = wP e a_2 (edE (uM S 10 (52 * c_2 + w) (ct b)) c_2) := by rw [ee_55]; unfold edE; rw [spP_uM (by decide) (by decide)]; rfl
        have hR2 : RR (uM S 10 (52 * c_2 + w) (ct b)) T e_55 := by rw [hce]; exact hR.educ (by omega) r_2 q_2 hB2 hI2 (fun k j hk => uM_nk (by omega)) (fun k j h1 h2 => uM_nk (by omega)) (fun j hj => uM_ni (by omega))
        have hcnt := m_bits (hoP (uM S 10 (52 * c_2 + w) (ct b)) c_2) 52 (by decide) (hol_cnt hI2 (x := c_2) (by omega))
        refine j_aload X dX6_setHoliday_58 1 rfl ?_
        refine jc_pget X ly_X2 m_55 p_55 rfl 1 (by decide) f_X6_165 rfl dX6_setHoliday_60 ?_
        refine jst_call1 X hK (hcnt) m_X6_156 (by decide) (by decide) (Nat.le_of_ble_eq_true rfl) ⟨by decide, by decide⟩ dX6_setHoliday_63 ?_
        exact j_ireturn X E ((T, e_55)) rfl ⟨_, rfl, by unfold holR; rw [hok, if_pos rfl, hx2, tw], by unfold holS; rw [hok, if_pos rfl, hx2, tw]; exact hR2⟩ dX6_setHoliday_66
      · refine j_aload X dX6_setHoliday_32 1 rfl ?_
        refine jc_pget X ly_X2 m_2 p_2 rfl 1 (by decide) f_X6_165 rfl dX6_setHoliday_34 ?_
        refine j_lload X dX6_setHoliday_37 0 rfl ?_
        refine j_lor X dX6_setHoliday_39 ?_
        rw [msk_or (by decide)]
        have hmk : msk (fun i => hoP S c_2 i || decide (i = w)) 52 = msk (hoP (uM S 10 (52 * c_2 + w) (ct b)) c_2) 52 := msk_congr (fun i hi => by rw [hol_set, c_29]; rfl)
        rw [hmk]
        refine j_goto (tgt := 55) X dX6_setHoliday_40 (by decide) ?_
        skip
        refine jc_pput X ly_X2 tyX2 tyX2_ok nmX2 m_2 p_2 rfl 1 (by decide) f_X6_165 rfl rfl rfl rfl (Nat.le_of_ble_eq_true rfl) dX6_setHoliday_55 (fun e_55 ee_55 => ?_)
        have m_55 := mem_wP ee_55 m_2
        have p_55 := pos_wP ee_55
        have hce : e_55 = wP e a_2 (edE (uM S 10 (52 * c_2 + w) (ct b)) c_2) := by rw [ee_55]; unfold edE; rw [spP_uM (by decide) (by decide)]; rfl
        have hR2 : RR (uM S 10 (52 * c_2 + w) (ct b)) T e_55 := by rw [hce]; exact hR.educ (by omega) r_2 q_2 hB2 hI2 (fun k j hk => uM_nk (by omega)) (fun k j h1 h2 => uM_nk (by omega)) (fun j hj => uM_ni (by omega))
        have hcnt := m_bits (hoP (uM S 10 (52 * c_2 + w) (ct b)) c_2) 52 (by decide) (hol_cnt hI2 (x := c_2) (by omega))
        refine j_aload X dX6_setHoliday_58 1 rfl ?_
        refine jc_pget X ly_X2 m_55 p_55 rfl 1 (by decide) f_X6_165 rfl dX6_setHoliday_60 ?_
        refine jst_call1 X hK (hcnt) m_X6_156 (by decide) (by decide) (Nat.le_of_ble_eq_true rfl) ⟨by decide, by decide⟩ dX6_setHoliday_63 ?_
        exact j_ireturn X E ((T, e_55)) rfl ⟨_, rfl, by unfold holR; rw [hok, if_pos rfl, hx2, tw], by unfold holS; rw [hok, if_pos rfl, hx2, tw]; exact hR2⟩ dX6_setHoliday_66
    · refine j_iconst (v := (-1)) X dX6_setHoliday_19 (by decide) ?_
      exact j_ireturn X E ((T, e)) rfl ⟨_, rfl, by unfold holR; rw [show (hasE S _ && isWeekI _) = false from by rw [c_16, Bool.and_false]]; rfl, by unfold holS; rw [show (hasE S _ && isWeekI _) = false from by rw [c_16, Bool.and_false]]; exact hR⟩ dX6_setHoliday_20
  · refine j_astoreN X [(4, _), (0, _), (1, _), (2, _), (3, _)] dX6_setHoliday_5 (by decide) rfl ?_
    refine j_aloadN X dX6_setHoliday_7 0 rfl ?_
    refine j_ifnullN (tgt := 19) X dX6_setHoliday_9 (by decide) ?_
    refine j_iconst (v := (-1)) X dX6_setHoliday_19 (by decide) ?_
    exact j_ireturn X E ((T, e)) rfl ⟨_, rfl, by unfold holR; rw [show (hasE S _ && isWeekI _) = false from by rw [x_2]; rfl]; rfl, by unfold holS; rw [show (hasE S _ && isWeekI _) = false from by rw [x_2]; rfl]; exact hR⟩ dX6_setHoliday_20
