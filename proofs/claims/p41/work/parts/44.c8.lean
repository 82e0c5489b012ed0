set_option maxRecDepth 100000 in
set_option maxHeartbeats 4000000 in
theorem m_X6_age {S : MS} {G : Nat → Nat} {T : CT} {e : CE} (hR : RG S G T e) (x : Int32) : CF zX6_age 16 2 0 0 [.int x] (T, e) (pZc (T, e) (ageI S x)) := by
  intro D Y ad
  refine MT.of [(0, .ref (ad 16)), (1, .int x)] (by decide) rfl (Nat.le_of_ble_eq_true rfl) ?_
  intro K hK X E
  refine j_aload_n X dX6_age_0 rfl 0 rfl ?_
  refine j_iload_n X dX6_age_1 rfl 1 rfl ?_
  refine jc_call16Q1 (mc := 0) (ms := 0) X hK (m_X6_childAt hR _) m_X6_68 rfl (by decide) (by decide) (Nat.le_of_ble_eq_true rfl) ⟨by decide, by decide⟩ dX6_age_2 ?_
  rintro _ _ ⟨rfl, (⟨c_2, a_2, l_2, rfl, x_2, q_2, r_2, m_2, p_2, rfl⟩ | ⟨x_2, rfl⟩)⟩
  · have cl_2 := nI_clamp (n := c_2) (by omega)
    refine j_astore_n X [(2, _), (0, _), (1, _)] dX6_age_5 rfl (by decide) rfl ?_
    refine j_aload_n X dX6_age_6 rfl 0 rfl ?_
    refine j_ifnonnull (tgt := 14) X dX6_age_7 (by decide) ?_
    refine j_aload_n X dX6_age_14 rfl 0 rfl ?_
    refine jc_pget X ly_X0 m_2 p_2 rfl 1 (by decide) f_X6_75 rfl dX6_age_15 ?_
    refine n_name (fun v_15 e_15 => ?_)
    have b_15 : v_15 < 16777216 := by rw [e_15]; exact hR.hB _ _
    exact j_ireturn X E ((T, e)) rfl ⟨_, rfl, by unfold ageI; rw [x_2, if_pos rfl, show tn (nI c_2) = c_2 from cl_2]; rw [e_15], rfl⟩ dX6_age_18
  · refine j_astore_nN X [(2, _), (0, _), (1, _)] dX6_age_5 rfl (by decide) rfl ?_
    refine j_aload_nN X dX6_age_6 rfl 0 rfl ?_
    refine j_ifnonnullN X dX6_age_7 ?_
    refine j_iconst (v := (-1)) X dX6_age_10 (by decide) ?_
    refine j_goto (tgt := 18) X dX6_age_11 (by decide) ?_
    exact j_ireturn X E ((T, e)) rfl ⟨_, rfl, by unfold ageI; rw [x_2]; rfl, rfl⟩ dX6_age_18
set_option maxRecDepth 100000 in
set_option maxHeartbeats 4000000 in
theorem m_X6_isAdmitted {S : MS} {G : Nat → Nat} {T : CT} {e : CE} (hR : RG S G T e) (x : Int32) : CF zX6_isAdmitted 16 2 0 0 [.int x] (T, e) (pZc (T, e) (isAdI S x)) := by
  intro D Y ad
  refine MT.of [(0, .ref (ad 16)), (1, .int x)] (by decide) rfl (Nat.le_of_ble_eq_true rfl) ?_
  intro K hK X E
  refine j_aload_n X dX6_isAdmitted_0 rfl 0 rfl ?_
  refine j_iload_n X dX6_isAdmitted_1 rfl 1 rfl ?_
  refine jc_call16Q1 (mc := 0) (ms := 0) X hK (m_X6_childAt hR _) m_X6_68 rfl (by decide) (by decide) (Nat.le_of_ble_eq_true rfl) ⟨by decide, by decide⟩ dX6_isAdmitted_2 ?_
  rintro _ _ ⟨rfl, (⟨c_2, a_2, l_2, rfl, x_2, q_2, r_2, m_2, p_2, rfl⟩ | ⟨x_2, rfl⟩)⟩
  · have cl_2 := nI_clamp (n := c_2) (by omega)
    refine j_astore_n X [(2, _), (0, _), (1, _)] dX6_isAdmitted_5 rfl (by decide) rfl ?_
    refine j_aload_n X dX6_isAdmitted_6 rfl 0 rfl ?_
    refine j_ifnonnull (tgt := 12) X dX6_isAdmitted_7 (by decide) ?_
    refine j_aload_n X dX6_isAdmitted_12 rfl 0 rfl ?_
    refine jc_pget X ly_X0 m_2 p_2 rfl 3 (by decide) f_X6_78 rfl dX6_isAdmitted_13 ?_
    refine n_name (fun v_13 e_13 => ?_)
    have b_13 : v_13 < 16777216 := by rw [e_13]; exact hR.hB _ _
    refine n_if_eq (tgt := 23) X dX6_isAdmitted_16 (by decide) (by omega) (fun c_16 => ?_) (fun c_16 => ?_)
    · refine j_iconst (v := nI 0) X dX6_isAdmitted_23 (by decide) ?_
      exact j_ireturn X E ((T, e)) rfl ⟨_, rfl, by unfold isAdI; rw [x_2, if_pos rfl, show tn (nI c_2) = c_2 from cl_2]; have := (hR.hI.2.2.1 c_2 (by omega)).2; congr 1; omega, rfl⟩ dX6_isAdmitted_24
    · refine j_iconst (v := nI 1) X dX6_isAdmitted_19 (by decide) ?_
      refine j_goto (tgt := 24) X dX6_isAdmitted_20 (by decide) ?_
      exact j_ireturn X E ((T, e)) rfl ⟨_, rfl, by unfold isAdI; rw [x_2, if_pos rfl, show tn (nI c_2) = c_2 from cl_2]; have := (hR.hI.2.2.1 c_2 (by omega)).2; congr 1; omega, rfl⟩ dX6_isAdmitted_24
  · refine j_astore_nN X [(2, _), (0, _), (1, _)] dX6_isAdmitted_5 rfl (by decide) rfl ?_
    refine j_aload_nN X dX6_isAdmitted_6 rfl 0 rfl ?_
    refine j_ifnonnullN X dX6_isAdmitted_7 ?_
    refine j_iconst (v := (-1)) X dX6_isAdmitted_10 (by decide) ?_
    exact j_ireturn X E ((T, e)) rfl ⟨_, rfl, by unfold isAdI; rw [x_2]; rfl, rfl⟩ dX6_isAdmitted_11
set_option maxRecDepth 100000 in
set_option maxHeartbeats 4000000 in
theorem m_X6_hours {S : MS} {G : Nat → Nat} {T : CT} {e : CE} (hR : RG S G T e) (x : Int32) : CF zX6_hours 16 3 0 0 [.int x] (T, e) (pZc (T, e) (hoursI S x)) := by
  intro D Y ad
  refine MT.of [(0, .ref (ad 16)), (1, .int x)] (by decide) rfl (Nat.le_of_ble_eq_true rfl) ?_
  intro K hK X E
  refine j_aload_n X dX6_hours_0 rfl 0 rfl ?_
  refine j_iload_n X dX6_hours_1 rfl 1 rfl ?_
  refine jc_call16Q1 (mc := 0) (ms := 0) X hK (m_X6_childAt hR _) m_X6_68 rfl (by decide) (by decide) (Nat.le_of_ble_eq_true rfl) ⟨by decide, by decide⟩ dX6_hours_2 ?_
  rintro _ _ ⟨rfl, (⟨c_2, a_2, l_2, rfl, x_2, q_2, r_2, m_2, p_2, rfl⟩ | ⟨x_2, rfl⟩)⟩
  · have cl_2 := nI_clamp (n := c_2) (by omega)
    refine j_astore_n X [(2, _), (0, _), (1, _)] dX6_hours_5 rfl (by decide) rfl ?_
    refine j_aload_n X dX6_hours_6 rfl 0 rfl ?_
    refine j_ifnonnull (tgt := 14) X dX6_hours_7 (by decide) ?_
    refine j_aload_n X dX6_hours_14 rfl 0 rfl ?_
    refine jc_callPI0 X hK (m_X0_bookedHours hR _ (by omega) m_2 p_2) m_X6_82 m_2 p_2 rfl rfl (by decide) (by decide) (Nat.le_of_ble_eq_true rfl) ⟨by decide, by decide⟩ dX6_hours_15 ?_
    rintro _ _ ⟨v_15, e_15, b_15, rfl, rfl⟩
    exact j_ireturn X E ((T, e)) rfl ⟨_, rfl, by unfold hoursI; rw [x_2, if_pos rfl, show tn (nI c_2) = c_2 from cl_2]; rw [e_15], rfl⟩ dX6_hours_18
  · refine j_astore_nN X [(2, _), (0, _), (1, _)] dX6_hours_5 rfl (by decide) rfl ?_
    refine j_aload_nN X dX6_hours_6 rfl 0 rfl ?_
    refine j_ifnonnullN X dX6_hours_7 ?_
    refine j_iconst (v := (-1)) X dX6_hours_10 (by decide) ?_
    refine j_goto (tgt := 18) X dX6_hours_11 (by decide) ?_
    exact j_ireturn X E ((T, e)) rfl ⟨_, rfl, by unfold hoursI; rw [x_2]; rfl, rfl⟩ dX6_hours_18
set_option maxRecDepth 100000 in
set_option maxHeartbeats 4000000 in
theorem m_X6_waited {S : MS} {G : Nat → Nat} {T : CT} {e : CE} (hR : RG S G T e) (x : Int32) : CF zX6_waited 16 2 0 0 [.int x] (T, e) (pZc (T, e) (waitedI S x)) := by
  intro D Y ad
  refine MT.of [(0, .ref (ad 16)), (1, .int x)] (by decide) rfl (Nat.le_of_ble_eq_true rfl) ?_
  intro K hK X E
  refine j_aload_n X dX6_waited_0 rfl 0 rfl ?_
  refine j_iload_n X dX6_waited_1 rfl 1 rfl ?_
  refine jc_call16Q1 (mc := 0) (ms := 0) X hK (m_X6_childAt hR _) m_X6_68 rfl (by decide) (by decide) (Nat.le_of_ble_eq_true rfl) ⟨by decide, by decide⟩ dX6_waited_2 ?_
  rintro _ _ ⟨rfl, (⟨c_2, a_2, l_2, rfl, x_2, q_2, r_2, m_2, p_2, rfl⟩ | ⟨x_2, rfl⟩)⟩
  · have cl_2 := nI_clamp (n := c_2) (by omega)
    refine j_astore_n X [(2, _), (0, _), (1, _)] dX6_waited_5 rfl (by decide) rfl ?_
    refine j_aload_n X dX6_waited_6 rfl 0 rfl ?_
    refine j_ifnonnull (tgt := 12) X dX6_waited_7 (by decide) ?_
    refine j_aload_n X dX6_waited_12 rfl 0 rfl ?_
    refine jc_pget X ly_X0 m_2 p_2 rfl 3 (by decide) f_X6_78 rfl dX6_waited_13 ?_
    refine n_name (fun v_13 e_13 => ?_)
    have b_13 : v_13 < 16777216 := by rw [e_13]; exact hR.hB _ _
    refine n_if_eq (tgt := 24) X dX6_waited_16 (by decide) (by omega) (fun c_16 => ?_) (fun c_16 => ?_)
    · refine j_aload_n X dX6_waited_24 rfl 0 rfl ?_
      refine jc_pget X ly_X0 m_2 p_2 rfl 2 (by decide) f_X6_114 rfl dX6_waited_25 ?_
      refine n_name (fun v_25 e_25 => ?_)
      have b_25 : v_25 < 16777216 := by rw [e_25]; exact hR.hB _ _
      exact j_ireturn X E ((T, e)) rfl ⟨_, rfl, by unfold waitedI; rw [x_2, if_pos rfl, show tn (nI c_2) = c_2 from cl_2]; rw [if_neg (by omega), e_25], rfl⟩ dX6_waited_28
    · have h01 := (hR.hI.2.2.1 c_2 (by omega)).2
      refine j_bipush (v := (-2)) X dX6_waited_19 (by decide) ?_
      refine j_goto (tgt := 28) X dX6_waited_21 (by decide) ?_
      exact j_ireturn X E ((T, e)) rfl ⟨_, rfl, by unfold waitedI; rw [x_2, if_pos rfl, show tn (nI c_2) = c_2 from cl_2]; rw [if_pos (by omega)], rfl⟩ dX6_waited_28
  · refine j_astore_nN X [(2, _), (0, _), (1, _)] dX6_waited_5 rfl (by decide) rfl ?_
    refine j_aload_nN X dX6_waited_6 rfl 0 rfl ?_
    refine j_ifnonnullN X dX6_waited_7 ?_
    refine j_iconst (v := (-1)) X dX6_waited_10 (by decide) ?_
    exact j_ireturn X E ((T, e)) rfl ⟨_, rfl, by unfold waitedI; rw [x_2]; rfl, rfl⟩ dX6_waited_11
set_option maxRecDepth 100000 in
set_option maxHeartbeats 4000000 in
theorem m_X6_points {S : MS} {G : Nat → Nat} {T : CT} {e : CE} (hR : RG S G T e) (x : Int32) : CF zX6_points 16 4 0 0 [.int x] (T, e) (pZc (T, e) (pointsI S x)) := by
  intro D Y ad
  refine MT.of [(0, .ref (ad 16)), (1, .int x)] (by decide) rfl (Nat.le_of_ble_eq_true rfl) ?_
  intro K hK X E
  refine j_aload_n X dX6_points_0 rfl 0 rfl ?_
  refine j_iload_n X dX6_points_1 rfl 1 rfl ?_
  refine jc_call16Q1 (mc := 0) (ms := 0) X hK (m_X6_childAt hR _) m_X6_68 rfl (by decide) (by decide) (Nat.le_of_ble_eq_true rfl) ⟨by decide, by decide⟩ dX6_points_2 ?_
  rintro _ _ ⟨rfl, (⟨c_2, a_2, l_2, rfl, x_2, q_2, r_2, m_2, p_2, rfl⟩ | ⟨x_2, rfl⟩)⟩
  · have cl_2 := nI_clamp (n := c_2) (by omega)
    refine j_astore_n X [(2, _), (0, _), (1, _)] dX6_points_5 rfl (by decide) rfl ?_
    refine j_aload_n X dX6_points_6 rfl 0 rfl ?_
    refine j_ifnonnull (tgt := 12) X dX6_points_7 (by decide) ?_
    refine j_aload_n X dX6_points_12 rfl 0 rfl ?_
    refine jc_pget X ly_X0 m_2 p_2 rfl 3 (by decide) f_X6_78 rfl dX6_points_13 ?_
    refine n_name (fun v_13 e_13 => ?_)
    have b_13 : v_13 < 16777216 := by rw [e_13]; exact hR.hB _ _
    refine n_if_eq (tgt := 24) X dX6_points_16 (by decide) (by omega) (fun c_16 => ?_) (fun c_16 => ?_)
    · refine j_aload_n X dX6_points_24 rfl 1 rfl ?_
      refine j_aload_n X dX6_points_25 rfl 0 rfl ?_
      refine jc_call16I1 (mc := 0) (ms := 0) X hK (m_X6_pointsOf hR _ (by omega) m_2 p_2 (by omega)) m_X6_117 rfl (by decide) (by decide) (Nat.le_of_ble_eq_true rfl) ⟨by decide, by decide⟩ dX6_points_26 ?_
      rintro _ _ ⟨v_26, e_26, b_26, rfl, rfl⟩
      exact j_ireturn X E ((T, e)) rfl ⟨_, rfl, by unfold pointsI; rw [x_2, if_pos rfl, show tn (nI c_2) = c_2 from cl_2]; rw [if_neg (by omega), e_26], rfl⟩ dX6_points_29
    · have h01 := (hR.hI.2.2.1 c_2 (by omega)).2
      refine j_bipush (v := (-2)) X dX6_points_19 (by decide) ?_
      refine j_goto (tgt := 29) X dX6_points_21 (by decide) ?_
      exact j_ireturn X E ((T, e)) rfl ⟨_, rfl, by unfold pointsI; rw [x_2, if_pos rfl, show tn (nI c_2) = c_2 from cl_2]; rw [if_pos (by omega)], rfl⟩ dX6_points_29
  · refine j_astore_nN X [(2, _), (0, _), (1, _)] dX6_points_5 rfl (by decide) rfl ?_
    refine j_aload_nN X dX6_points_6 rfl 0 rfl ?_
    refine j_ifnonnullN X dX6_points_7 ?_
    refine j_iconst (v := (-1)) X dX6_points_10 (by decide) ?_
    exact j_ireturn X E ((T, e)) rfl ⟨_, rfl, by unfold pointsI; rw [x_2]; rfl, rfl⟩ dX6_points_11
set_option maxRecDepth 100000 in
set_option maxHeartbeats 4000000 in
theorem m_X6_coverOf {S : MS} {G : Nat → Nat} {T : CT} {e : CE} (hR : RG S G T e) (x : Int32) : CF zX6_coverOf 16 2 0 0 [.int x] (T, e) (pZc (T, e) (cvoI S x)) := by
  intro D Y ad
  refine MT.of [(0, .ref (ad 16)), (1, .int x)] (by decide) rfl (Nat.le_of_ble_eq_true rfl) ?_
  intro K hK X E
  refine j_iload_n X dX6_coverOf_0 rfl 1 rfl ?_
  refine jst_call1 X hK (m_X6_isDay _) m_X6_85 (by decide) (by decide) (Nat.le_of_ble_eq_true rfl) ⟨by decide, by decide⟩ dX6_coverOf_1 ?_
  refine b_if_eq (tgt := 16) X dX6_coverOf_4 (by decide) (fun c_4 => ?_) (fun c_4 => ?_)
  · refine j_iconst (v := (-1)) X dX6_coverOf_16 (by decide) ?_
    exact j_ireturn X E ((T, e)) rfl ⟨_, rfl, by unfold cvoI; rw [c_4]; rfl, rfl⟩ dX6_coverOf_17
  · obtain ⟨d, hd, rfl⟩ := within_0 (by decide) c_4
    refine j_aload_n X dX6_coverOf_7 rfl 0 rfl ?_
    refine j_getf X ly_X6 0 rfl rfl 6 (by decide) f_X6_35 rfl dX6_coverOf_8 ?_
    refine j_iload_n X dX6_coverOf_11 rfl 1 rfl ?_
    refine jc_ald X (by decide) (by decide) (by show _ < 5; omega) dX6_coverOf_12 ?_
    rw [hR.t2 (by omega)]
    refine n_name (fun v_12 e_12 => ?_)
    have b_12 : v_12 < 16777216 := by rw [e_12]; exact hR.hB _ _
    refine j_goto (tgt := 17) X dX6_coverOf_13 (by decide) ?_
    exact j_ireturn X E ((T, e)) rfl ⟨_, rfl, by unfold cvoI; rw [c_4, if_pos rfl, e_12, show tn (nI d) = d from nI_clamp (by omega)], rfl⟩ dX6_coverOf_17
set_option maxRecDepth 100000 in
set_option maxHeartbeats 4000000 in
theorem m_X6_coverOfN {S : MS} {G : Nat → Nat} {T : CT} {e : CE} (hR : RG S G T e) (d : Nat) (hd : d < 5) : CF zX6_coverOf 16 2 0 0 [.int (nI d)] (T, e) (pNc (T, e) (S 16 d) 16777215) := by
  intro D Y ad
  refine MT.of [(0, .ref (ad 16)), (1, .int (nI d))] (by decide) rfl (Nat.le_of_ble_eq_true rfl) ?_
  intro K hK X E
  refine j_iload_n X dX6_coverOf_0 rfl 1 rfl ?_
  refine jst_call1 X hK (m_X6_isDay _) m_X6_85 (by decide) (by decide) (Nat.le_of_ble_eq_true rfl) ⟨by decide, by decide⟩ dX6_coverOf_1 ?_
  refine b_if_eq (tgt := 16) X dX6_coverOf_4 (by decide) (fun c_4 => ?_) (fun c_4 => ?_)
  · exact absurd c_4 (by rw [isDay_n hd]; decide)
  · refine j_aload_n X dX6_coverOf_7 rfl 0 rfl ?_
    refine j_getf X ly_X6 0 rfl rfl 6 (by decide) f_X6_35 rfl dX6_coverOf_8 ?_
    refine j_iload_n X dX6_coverOf_11 rfl 1 rfl ?_
    refine jc_ald X (by decide) (by decide) (by show _ < 5; omega) dX6_coverOf_12 ?_
    rw [hR.t2 (by omega)]
    refine n_name (fun v_12 e_12 => ?_)
    have b_12 : v_12 < 16777216 := by rw [e_12]; exact hR.hB _ _
    refine j_goto (tgt := 17) X dX6_coverOf_13 (by decide) ?_
    exact j_ireturn X E ((T, e)) rfl ⟨_, rfl, _, e_12, by omega, rfl, rfl⟩ dX6_coverOf_17
set_option maxRecDepth 100000 in
set_option maxHeartbeats 4000000 in
theorem m_X6_setRatio {S : MS} {T : CT} {e : CE} (hR : RR S T e) (x y : Int32) : CF zX6_setRatio 16 2 0 0 [.int x, .int y] (T, e) (pR (ratR S x y) (ratS S x y)) := by
  intro D Y ad
  refine MT.of [(0, .ref (ad 16)), (1, .int x), (2, .int y)] (by decide) rfl (Nat.le_of_ble_eq_true rfl) ?_
  intro K hK X E
  refine j_iload_n X dX6_setRatio_0 rfl 1 rfl ?_
  refine jst_call1 X hK (m_X6_isGroup _) m_X6_168 (by decide) (by decide) (Nat.le_of_ble_eq_true rfl) ⟨by decide, by decide⟩ dX6_setRatio_1 ?_
  refine b_if_eq (tgt := 18) X dX6_setRatio_4 (by decide) (fun c_4 => ?_) (fun c_4 => ?_)
  · refine j_iconst (v := (-1)) X dX6_setRatio_18 (by decide) ?_
    exact j_ireturn X E ((T, e)) rfl ⟨_, rfl, by unfold ratR; rw [show ratOk x y = false from by unfold ratOk; rw [c_4]; rfl]; rfl, by unfold ratS; rw [show ratOk x y = false from by unfold ratOk; rw [c_4]; rfl]; exact hR⟩ dX6_setRatio_19
  · refine j_iload_n X dX6_setRatio_7 rfl 2 rfl ?_
    refine j_iconst (v := nI 1) X dX6_setRatio_8 (by decide) ?_
    refine j_icmp_lt (tgt := 18) X dX6_setRatio_9 (by decide) (fun c_9 => ?_) (fun c_9 => ?_)
    · refine j_iconst (v := (-1)) X dX6_setRatio_18 (by decide) ?_
      exact j_ireturn X E ((T, e)) rfl ⟨_, rfl, by unfold ratR; rw [show ratOk x y = false from by unfold ratOk; rw [wl c_9, Bool.and_false]]; rfl, by unfold ratS; rw [show ratOk x y = false from by unfold ratOk; rw [wl c_9, Bool.and_false]]; exact hR⟩ dX6_setRatio_19
    · refine j_iload_n X dX6_setRatio_12 rfl 2 rfl ?_
      refine j_bipush (v := nI 20) X dX6_setRatio_13 (by decide) ?_
      refine j_icmp_le (tgt := 20) X dX6_setRatio_15 (by decide) (fun c_15 => ?_) (fun c_15 => ?_)
      · have hy : withinI y (nI 1) (nI 20) = true := by unfold withinI; simp; exact ⟨i_nlt c_9, c_15⟩
        have hok : ratOk x y = true := by unfold ratOk; rw [c_4, hy]; rfl
        obtain ⟨g, hg, rfl⟩ := within_0 (by decide) c_4
        obtain ⟨v, hv1, hv2, rfl⟩ := within_of (lo := 1) (n := 20) (by decide) (by decide) hy
        have hg2 : tn (nI g) = g := nI_clamp (by omega)
        have hv3 : tn (nI v) = v := nI_clamp (by omega)
        refine j_aload_n X dX6_setRatio_20 rfl 0 rfl ?_
        refine j_getf X ly_X6 0 rfl rfl 2 (by decide) f_X6_21 rfl dX6_setRatio_21 ?_
        refine j_iload_n X dX6_setRatio_24 rfl 1 rfl ?_
        refine jc_ald X (by decide) (by decide) (by show _ < 3; omega) dX6_setRatio_25 ?_
        rw [hR.t0 (by omega)]
        refine n_name (fun v_25 e_25 => ?_)
        have b_25 : v_25 < 16777216 := by rw [e_25]; exact hR.hB _ _
        refine j_istore_n X [(3, _), (0, _), (1, _), (2, _)] dX6_setRatio_26 rfl (by decide) rfl ?_
        refine j_aload_n X dX6_setRatio_27 rfl 1 rfl ?_
        refine j_getf X ly_X6 0 rfl rfl 2 (by decide) f_X6_21 rfl dX6_setRatio_28 ?_
        refine j_iload_n X dX6_setRatio_31 rfl 2 rfl ?_
        refine j_iload_n X dX6_setRatio_32 rfl 3 rfl ?_
        refine jc_ast X (by decide) (by decide) (by show _ < 3; omega) dX6_setRatio_33 (fun T_33 eT_33 => ?_)
        have hRn : RR (ratS S (nI g) (nI v)) T_33 e := by unfold ratS; rw [hok, if_pos rfl, hg2, hv3, eT_33]; exact hR.row (BD_u hR.hB (by omega)) (IV_rat hR.hI (⟨by omega, by omega⟩)) (rows_11 hR.2.2.1) (fun a j ha => uM_nk (by omega)) (uM_nk (by omega))
        refine j_iload_n X dX6_setRatio_34 rfl 0 rfl ?_
        exact j_ireturn X E ((T_33, e)) rfl ⟨_, rfl, by unfold ratR; rw [hok, if_pos rfl, hg2, e_25], hRn⟩ dX6_setRatio_35
      · refine j_iconst (v := (-1)) X dX6_setRatio_18 (by decide) ?_
        exact j_ireturn X E ((T, e)) rfl ⟨_, rfl, by unfold ratR; rw [show ratOk x y = false from by unfold ratOk; rw [wh c_15, Bool.and_false]]; rfl, by unfold ratS; rw [show ratOk x y = false from by unfold ratOk; rw [wh c_15, Bool.and_false]]; exact hR⟩ dX6_setRatio_19
set_option maxRecDepth 100000 in
set_option maxHeartbeats 4000000 in
theorem m_X6_setRate {S : MS} {T : CT} {e : CE} (hR : RR S T e) (x y : Int32) : CF zX6_setRate 16 2 0 0 [.int x, .int y] (T, e) (pR (rateR S x y) (rateS S x y)) := by
  intro D Y ad
  refine MT.of [(0, .ref (ad 16)), (1, .int x), (2, .int y)] (by decide) rfl (Nat.le_of_ble_eq_true rfl) ?_
  intro K hK X E
  refine j_iload_n X dX6_setRate_0 rfl 1 rfl ?_
  refine jst_call1 X hK (m_X6_isGroup _) m_X6_168 (by decide) (by decide) (Nat.le_of_ble_eq_true rfl) ⟨by decide, by decide⟩ dX6_setRate_1 ?_
  refine b_if_eq (tgt := 18) X dX6_setRate_4 (by decide) (fun c_4 => ?_) (fun c_4 => ?_)
  · refine j_iconst (v := (-1)) X dX6_setRate_18 (by decide) ?_
    exact j_ireturn X E ((T, e)) rfl ⟨_, rfl, by unfold rateR; rw [show rateOk x y = false from by unfold rateOk; rw [c_4]; rfl]; rfl, by unfold rateS; rw [show rateOk x y = false from by unfold rateOk; rw [c_4]; rfl]; exact hR⟩ dX6_setRate_19
  · refine j_iload_n X dX6_setRate_7 rfl 2 rfl ?_
    refine j_if_lt (tgt := 18) X dX6_setRate_8 (by decide) (fun c_8 => ?_) (fun c_8 => ?_)
    · refine j_iconst (v := (-1)) X dX6_setRate_18 (by decide) ?_
      exact j_ireturn X E ((T, e)) rfl ⟨_, rfl, by unfold rateR; rw [show rateOk x y = false from by unfold rateOk; rw [wl0 c_8, Bool.and_false]]; rfl, by unfold rateS; rw [show rateOk x y = false from by unfold rateOk; rw [wl0 c_8, Bool.and_false]]; exact hR⟩ dX6_setRate_19
    · refine j_iload_n X dX6_setRate_11 rfl 2 rfl ?_
      refine j_sipush (v := nI 5000) X dX6_setRate_12 (by decide) ?_
      refine j_icmp_le (tgt := 20) X dX6_setRate_15 (by decide) (fun c_15 => ?_) (fun c_15 => ?_)
      · have hy : withinI y (nI 0) (nI 5000) = true := by unfold withinI; simp; exact ⟨by rw [nI_0]; exact i_nlt c_8, c_15⟩
        have hok : rateOk x y = true := by unfold rateOk; rw [c_4, hy]; rfl
        obtain ⟨g, hg, rfl⟩ := within_0 (by decide) c_4
        obtain ⟨v, hv1, hv2, rfl⟩ := within_of (lo := 0) (n := 5000) (by decide) (by decide) hy
        have hg2 : tn (nI g) = g := nI_clamp (by omega)
        have hv3 : tn (nI v) = v := nI_clamp (by omega)
        refine j_aload_n X dX6_setRate_20 rfl 0 rfl ?_
        refine j_getf X ly_X6 0 rfl rfl 3 (by decide) f_X6_25 rfl dX6_setRate_21 ?_
        refine j_iload_n X dX6_setRate_24 rfl 1 rfl ?_
        refine jc_ald X (by decide) (by decide) (by show _ < 3; omega) dX6_setRate_25 ?_
        rw [hR.t1 (by omega)]
        refine n_name (fun v_25 e_25 => ?_)
        have b_25 : v_25 < 16777216 := by rw [e_25]; exact hR.hB _ _
        refine j_istore_n X [(3, _), (0, _), (1, _), (2, _)] dX6_setRate_26 rfl (by decide) rfl ?_
        refine j_aload_n X dX6_setRate_27 rfl 1 rfl ?_
        refine j_getf X ly_X6 0 rfl rfl 3 (by decide) f_X6_25 rfl dX6_setRate_28 ?_
        refine j_iload_n X dX6_setRate_31 rfl 2 rfl ?_
        refine j_iload_n X dX6_setRate_32 rfl 3 rfl ?_
        refine jc_ast X (by decide) (by decide) (by show _ < 3; omega) dX6_setRate_33 (fun T_33 eT_33 => ?_)
        have hRn : RR (rateS S (nI g) (nI v)) T_33 e := by unfold rateS; rw [hok, if_pos rfl, hg2, hv3, eT_33]; exact hR.row (BD_u hR.hB (by omega)) (IV_rate hR.hI (by omega)) (rows_12 hR.2.2.1) (fun a j ha => uM_nk (by omega)) (uM_nk (by omega))
        refine j_iload_n X dX6_setRate_34 rfl 0 rfl ?_
        exact j_ireturn X E ((T_33, e)) rfl ⟨_, rfl, by unfold rateR; rw [hok, if_pos rfl, hg2, e_25], hRn⟩ dX6_setRate_35
      · refine j_iconst (v := (-1)) X dX6_setRate_18 (by decide) ?_
        exact j_ireturn X E ((T, e)) rfl ⟨_, rfl, by unfold rateR; rw [show rateOk x y = false from by unfold rateOk; rw [wh c_15, Bool.and_false]]; rfl, by unfold rateS; rw [show rateOk x y = false from by unfold rateOk; rw [wh c_15, Bool.and_false]]; exact hR⟩ dX6_setRate_19
