set_option maxRecDepth 100000 in
set_option maxHeartbeats 4000000 in
theorem m_X6_release {S : MS} {T : CT} {e : CE} (hR : RR S T e) (x : Int32) : CF zX6_release 16 3 0 0 [.int x] (T, e) (pR (relR S x) (relS S x)) := by
  intro D Y ad
  refine MT.of [(0, .ref (ad 16)), (1, .int x)] (by decide) rfl (Nat.le_of_ble_eq_true rfl) ?_
  intro K hK X E
  refine j_aload_n X dX6_release_0 rfl 0 rfl ?_
  refine j_iload_n X dX6_release_1 rfl 1 rfl ?_
  refine jc_call16Q1 (mc := 0) (ms := 0) X hK (m_X6_childAt hR _) m_X6_68 rfl (by decide) (by decide) (Nat.le_of_ble_eq_true rfl) ⟨by decide, by decide⟩ dX6_release_2 ?_
  rintro _ _ ⟨rfl, (⟨c_2, a_2, l_2, rfl, x_2, q_2, r_2, m_2, p_2, rfl⟩ | ⟨x_2, rfl⟩)⟩
  · have cl_2 := nI_clamp (n := c_2) (by omega)
    have hx2 : tn (nI c_2) = c_2 := cl_2
    refine j_astore_n X [(2, _), (0, _), (1, _)] dX6_release_5 rfl (by decide) rfl ?_
    refine j_aload_n X dX6_release_6 rfl 0 rfl ?_
    refine j_ifnonnull (tgt := 12) X dX6_release_7 (by decide) ?_
    refine j_aload_n X dX6_release_12 rfl 0 rfl ?_
    refine jc_pget X ly_X0 m_2 p_2 rfl 3 (by decide) f_X6_78 rfl dX6_release_13 ?_
    refine n_name (fun v_13 e_13 => ?_)
    have b_13 : v_13 < 16777216 := by rw [e_13]; exact hR.hB _ _
    refine n_if_ne (tgt := 22) X dX6_release_16 (by decide) (by omega) (fun c_16 => ?_) (fun c_16 => ?_)
    · refine j_aload_n X dX6_release_22 rfl 0 rfl ?_
      refine j_iconst (v := nI 0) X dX6_release_23 (by decide) ?_
      refine jc_pput X ly_X0 tyX0 tyX0_ok nmX0 m_2 p_2 rfl 3 (by decide) f_X6_78 rfl rfl rfl rfl (Nat.le_of_ble_eq_true rfl) dX6_release_24 (fun e_24 ee_24 => ?_)
      have m_24 := mem_wP ee_24 m_2
      have p_24 := pos_wP ee_24
      refine j_aload_n X dX6_release_27 rfl 0 rfl ?_
      refine j_iconst (v := nI 0) X dX6_release_28 (by decide) ?_
      refine jc_pput X ly_X0 tyX0 tyX0_ok nmX0 m_24 p_24 rfl 2 (by decide) f_X6_114 rfl rfl rfl rfl (Nat.le_of_ble_eq_true rfl) dX6_release_29 (fun e_29 ee_29 => ?_)
      have m_29 := mem_wP ee_29 m_24
      have p_29 := pos_wP ee_29
      have hce : e_29 = wP e a_2 (chE (uM (uM S 3 c_2 0) 4 c_2 0) c_2) := by rw [ee_29, ee_24, wP_wP]; unfold chE; rw [spP_uM (by decide) (by decide), spP_uM (by decide) (by decide)]; simp [uM]
      have hR2 : RR (uM (uM S 3 c_2 0) 4 c_2 0) T e_29 := by rw [hce]; exact hR.child (by omega) r_2 q_2 (BD_u (BD_u hR.hB (by omega)) (by omega)) (IV_rel hR.hI) (fun k j hk => by rw [uM_nk (by omega), uM_nk (by omega)]) (fun k j hk hj => by rw [uM_ni hj, uM_ni hj]) (fun k j hk hj => by rw [uM_nk (by omega), uM_nk (by omega)])
      have hp2 : eP e_29 a_2 = chE (uM (uM S 3 c_2 0) 4 c_2 0) c_2 := by rw [hce]; exact eP_wP _ _ _
      have hh2 : hoursN (uM (uM S 3 c_2 0) 4 c_2 0) c_2 = hoursN S c_2 := hoursN_congr (fun j => by rw [uM_nk (by omega), uM_nk (by omega)]) (fun j => by rw [uM_nk (by omega), uM_nk (by omega)])
      refine j_aload_n X dX6_release_32 rfl 0 rfl ?_
      refine jc_callPI0 X hK (m_X0_bookedHours hR2 c_2 (by omega) m_29 hp2) m_X6_82 m_29 p_29 rfl rfl (by decide) (by decide) (Nat.le_of_ble_eq_true rfl) ⟨by decide, by decide⟩ dX6_release_33 ?_
      rintro _ _ ⟨v_33, e_33, b_33, rfl, rfl⟩
      exact j_ireturn X E ((T, e_29)) rfl ⟨_, rfl, by unfold relR; rw [x_2, if_pos rfl, hx2, if_neg (by omega), e_33, hh2], by unfold relS; rw [x_2, if_pos rfl, hx2, if_neg (by omega)]; exact hR2⟩ dX6_release_36
    · refine j_bipush (v := (-2)) X dX6_release_19 (by decide) ?_
      exact j_ireturn X E ((T, e)) rfl ⟨_, rfl, by unfold relR; rw [x_2, if_pos rfl, hx2, if_pos (by omega)], by unfold relS; rw [x_2, if_pos rfl, hx2, if_pos (by omega)]; exact hR⟩ dX6_release_21
  · refine j_astore_nN X [(2, _), (0, _), (1, _)] dX6_release_5 rfl (by decide) rfl ?_
    refine j_aload_nN X dX6_release_6 rfl 0 rfl ?_
    refine j_ifnonnullN X dX6_release_7 ?_
    refine j_iconst (v := (-1)) X dX6_release_10 (by decide) ?_
    exact j_ireturn X E ((T, e)) rfl ⟨_, rfl, by unfold relR; rw [x_2]; rfl, by unfold relS; rw [x_2]; exact hR⟩ dX6_release_11
set_option maxRecDepth 100000 in
set_option maxHeartbeats 4000000 in
theorem m_X6_removeChild {S : MS} {T : CT} {e : CE} (hR : RR S T e) (x : Int32) : CF zX6_removeChild 16 2 0 0 [.int x] (T, e) (pR (rmCR S x) (rmCS S x)) := by
  intro D Y ad
  refine MT.of [(0, .ref (ad 16)), (1, .int x)] (by decide) rfl (Nat.le_of_ble_eq_true rfl) ?_
  intro K hK X E
  refine j_aload_n X dX6_removeChild_0 rfl 0 rfl ?_
  refine j_iload_n X dX6_removeChild_1 rfl 1 rfl ?_
  refine jc_call16Q1 (mc := 0) (ms := 0) X hK (m_X6_childAt hR _) m_X6_68 rfl (by decide) (by decide) (Nat.le_of_ble_eq_true rfl) ⟨by decide, by decide⟩ dX6_removeChild_2 ?_
  rintro _ _ ⟨rfl, (⟨c_2, a_2, l_2, rfl, x_2, q_2, r_2, m_2, p_2, rfl⟩ | ⟨x_2, rfl⟩)⟩
  · have cl_2 := nI_clamp (n := c_2) (by omega)
    have hx2 : tn (nI c_2) = c_2 := cl_2
    refine j_ifnonnull (tgt := 10) X dX6_removeChild_5 (by decide) ?_
    refine j_aload_n X dX6_removeChild_10 rfl 0 rfl ?_
    refine j_getf X ly_X6 0 rfl rfl 0 (by decide) f_X6_11 rfl dX6_removeChild_11 ?_
    refine j_iload_n X dX6_removeChild_14 rfl 1 rfl ?_
    refine j_aconst_null X dX6_removeChild_15 ?_
    refine jc_ast_r0N X (by omega) dX6_removeChild_16 (fun e_16 ee_16 => ?_)
    have hR2 : RR (uM S 0 c_2 0) T e_16 := by rw [ee_16]; exact hR.rmC
    refine j_aload_n X dX6_removeChild_17 rfl 0 rfl ?_
    refine jc_call16I0 (mc := 0) (ms := 0) X hK (m_X6_children hR2) m_X6_72 rfl (by decide) (by decide) (Nat.le_of_ble_eq_true rfl) ⟨by decide, by decide⟩ dX6_removeChild_18 ?_
    rintro _ _ ⟨v_18, e_18, b_18, rfl, rfl⟩
    exact j_ireturn X E ((T, e_16)) rfl ⟨_, rfl, by unfold rmCR; rw [x_2, if_pos rfl, hx2, e_18], by unfold rmCS; rw [x_2, if_pos rfl, hx2]; exact hR2⟩ dX6_removeChild_21
  · refine j_ifnonnullN X dX6_removeChild_5 ?_
    refine j_iconst (v := (-1)) X dX6_removeChild_8 (by decide) ?_
    exact j_ireturn X E ((T, e)) rfl ⟨_, rfl, by unfold rmCR; rw [x_2]; rfl, by unfold rmCS; rw [x_2]; exact hR⟩ dX6_removeChild_9
set_option maxRecDepth 100000 in
set_option maxHeartbeats 4000000 in
theorem m_X6_removeEducator {S : MS} {T : CT} {e : CE} (hR : RR S T e) (x : Int32) : CF zX6_removeEducator 16 2 0 0 [.int x] (T, e) (pR (rmER S x) (rmES S x)) := by
  intro D Y ad
  refine MT.of [(0, .ref (ad 16)), (1, .int x)] (by decide) rfl (Nat.le_of_ble_eq_true rfl) ?_
  intro K hK X E
  refine j_aload_n X dX6_removeEducator_0 rfl 0 rfl ?_
  refine j_iload_n X dX6_removeEducator_1 rfl 1 rfl ?_
  refine jc_call16Q1 (mc := 0) (ms := 0) X hK (m_X6_educatorAt hR _) m_X6_147 rfl (by decide) (by decide) (Nat.le_of_ble_eq_true rfl) ⟨by decide, by decide⟩ dX6_removeEducator_2 ?_
  rintro _ _ ⟨rfl, (⟨c_2, a_2, l_2, rfl, x_2, q_2, r_2, m_2, p_2, rfl⟩ | ⟨x_2, rfl⟩)⟩
  · have cl_2 := nI_clamp (n := c_2) (by omega)
    have hx2 : tn (nI c_2) = c_2 := cl_2
    refine j_ifnonnull (tgt := 10) X dX6_removeEducator_5 (by decide) ?_
    refine j_aload_n X dX6_removeEducator_10 rfl 0 rfl ?_
    refine j_getf X ly_X6 0 rfl rfl 1 (by decide) f_X6_17 rfl dX6_removeEducator_11 ?_
    refine j_iload_n X dX6_removeEducator_14 rfl 1 rfl ?_
    refine j_aconst_null X dX6_removeEducator_15 ?_
    refine jc_ast_r1N X (by omega) dX6_removeEducator_16 (fun e_16 ee_16 => ?_)
    have hR2 : RR (uM S 7 c_2 0) T e_16 := by rw [ee_16]; exact hR.rmE
    refine j_aload_n X dX6_removeEducator_17 rfl 0 rfl ?_
    refine jc_call16I0 (mc := 0) (ms := 0) X hK (m_X6_educators hR2) m_X6_151 rfl (by decide) (by decide) (Nat.le_of_ble_eq_true rfl) ⟨by decide, by decide⟩ dX6_removeEducator_18 ?_
    rintro _ _ ⟨v_18, e_18, b_18, rfl, rfl⟩
    exact j_ireturn X E ((T, e_16)) rfl ⟨_, rfl, by unfold rmER; rw [x_2, if_pos rfl, hx2, e_18], by unfold rmES; rw [x_2, if_pos rfl, hx2]; exact hR2⟩ dX6_removeEducator_21
  · refine j_ifnonnullN X dX6_removeEducator_5 ?_
    refine j_iconst (v := (-1)) X dX6_removeEducator_8 (by decide) ?_
    exact j_ireturn X E ((T, e)) rfl ⟨_, rfl, by unfold rmER; rw [x_2]; rfl, by unfold rmES; rw [x_2]; exact hR⟩ dX6_removeEducator_9
set_option maxRecDepth 100000 in
set_option maxHeartbeats 4000000 in
theorem m_X6_rebook {S : MS} {T : CT} {e : CE} (hR : RR S T e) {a : Nat} (c : Nat) (hc : c < 24) (hm : a ∈ eL e) (hp : eP e a = chE S c) (hr : eR e 0 c = some a) (h0 : S 0 c = 1) (p : Nat → Bool) {S2 : MS} (hp2 : ∀ q, q < 50 → p q = spP S2 5 c q) (hB2 : BD S2) (hI2 : IV S2) (ho : ∀ k j, k ≠ 5 → k ≠ 6 → S2 k j = S k j) (h5 : ∀ k j, k = 5 ∨ k = 6 → j / 5 ≠ c → S2 k j = S k j) : CF zX6_rebook 16 5 0 0 [.ref a, .long (msk p 50)] (T, e) (pI (fun r u => (if (decide (S 3 c = 1) && !andN (fun q => !(p q && !spP S 5 c q) || sfB S c q) 50) then -3 else nI (hoursN S2 c)) = r ∧ RR (if (decide (S 3 c = 1) && !andN (fun q => !(p q && !spP S 5 c q) || sfB S c q) 50) then S else S2) u.1 u.2)) := by
  intro D Y ad
  refine MT.of [(0, .ref (ad 16)), (1, .ref a), (2, .long (msk p 50))] (by decide) rfl (Nat.le_of_ble_eq_true rfl) ?_
  intro K hK X E
  refine j_lload_n X dX6_rebook_0 rfl 2 rfl ?_
  refine j_aload_n X dX6_rebook_1 rfl 1 rfl ?_
  refine jc_pget X ly_X0 hm hp rfl 4 (by decide) f_X6_93 rfl dX6_rebook_2 ?_
  refine j_ldc2 X k_X6_108 dX6_rebook_5 ?_
  refine j_lxor X dX6_rebook_8 ?_
  refine j_land X dX6_rebook_9 ?_
  rw [msk_less (by decide)]
  refine j_lstore X [(4, _), (0, _), (1, _), (2, _)] dX6_rebook_10 (by decide) rfl ?_
  refine j_aload_n X dX6_rebook_12 rfl 2 rfl ?_
  refine jc_pget X ly_X0 hm hp rfl 3 (by decide) f_X6_78 rfl dX6_rebook_13 ?_
  refine n_name (fun v_13 e_13 => ?_)
  have b_13 : v_13 < 16777216 := by rw [e_13]; exact hR.hB _ _
  refine n_if_eq (tgt := 32) X dX6_rebook_16 (by decide) (by omega) (fun c_16 => ?_) (fun c_16 => ?_)
  · have hno : (decide (S 3 c = 1) && !andN (fun q => !(p q && !spP S 5 c q) || sfB S c q) 50) = false := by rw [decide_eq_false (show ¬ S 3 c = 1 by omega)]; rfl
    refine j_aload_n X dX6_rebook_32 rfl 2 rfl ?_
    refine j_lload_n X dX6_rebook_33 rfl 3 rfl ?_
    refine jc_pput X ly_X0 tyX0 tyX0_ok nmX0 hm hp rfl 4 (by decide) f_X6_93 rfl rfl rfl rfl (Nat.le_of_ble_eq_true rfl) dX6_rebook_34 (fun e_34 ee_34 => ?_)
    have m_34 := mem_wP ee_34 hm
    have p_34 := pos_wP ee_34
    have hce : e_34 = wP e a (chE S2 c) := by rw [ee_34]; unfold chE; rw [ho 2 c (by omega) (by omega), ho 1 c (by omega) (by omega), ho 4 c (by omega) (by omega), ho 3 c (by omega) (by omega), ← msk_congr hp2]; rfl
    have hR2 : RR S2 T e_34 := by rw [hce]; exact hR.child hc hr h0 hB2 hI2 (fun k j hk => ho k j (by omega) (by omega)) (fun k j hk hj => ho k j (by omega) (by omega)) h5
    have hpn : eP e_34 a = chE S2 c := by rw [hce]; exact eP_wP _ _ _
    refine j_aload_n X dX6_rebook_37 rfl 2 rfl ?_
    refine jc_callPI0 X hK (m_X0_bookedHours hR2 c hc m_34 hpn) m_X6_82 m_34 p_34 rfl rfl (by decide) (by decide) (Nat.le_of_ble_eq_true rfl) ⟨by decide, by decide⟩ dX6_rebook_38 ?_
    rintro _ _ ⟨v_38, e_38, b_38, rfl, rfl⟩
    exact j_ireturn X E ((T, e_34)) rfl ⟨_, rfl, by rw [hno, e_38]; rfl, by rw [hno]; exact hR2⟩ dX6_rebook_41
  · have h31 : S 3 c = 1 := by have := (hR.hI.2.2.1 c hc).2; omega
    refine j_aload_n X dX6_rebook_19 rfl 1 rfl ?_
    refine j_lload X dX6_rebook_20 0 rfl ?_
    refine j_aload_n X dX6_rebook_22 rfl 2 rfl ?_
    refine jc_call16I2 (mc := 0) (ms := 0) X hK (m_X6_areSafeWith hR (fun q => p q && !spP S 5 c q) c hc hm hp) m_X6_110 rfl (by decide) (by decide) (Nat.le_of_ble_eq_true rfl) ⟨by decide, by decide⟩ dX6_rebook_23 ?_
    rintro _ _ ⟨T_23, rfl, rfl, s_23⟩
    have hR_23 := hR.sm s_23 (by decide)
    refine b_if_ne (tgt := 32) X dX6_rebook_26 (by decide) (fun c_26 => ?_) (fun c_26 => ?_)
    · have hno : (decide (S 3 c = 1) && !andN (fun q => !(p q && !spP S 5 c q) || sfB S c q) 50) = false := by rw [c_26, Bool.not_true, Bool.and_false]
      refine j_aload_n X dX6_rebook_32 rfl 2 rfl ?_
      refine j_lload_n X dX6_rebook_33 rfl 3 rfl ?_
      refine jc_pput X ly_X0 tyX0 tyX0_ok nmX0 hm hp rfl 4 (by decide) f_X6_93 rfl rfl rfl rfl (Nat.le_of_ble_eq_true rfl) dX6_rebook_34 (fun e_34 ee_34 => ?_)
      have m_34 := mem_wP ee_34 hm
      have p_34 := pos_wP ee_34
      have hce : e_34 = wP e a (chE S2 c) := by rw [ee_34]; unfold chE; rw [ho 2 c (by omega) (by omega), ho 1 c (by omega) (by omega), ho 4 c (by omega) (by omega), ho 3 c (by omega) (by omega), ← msk_congr hp2]; rfl
      have hR2 : RR S2 T_23 e_34 := by rw [hce]; exact hR_23.child hc hr h0 hB2 hI2 (fun k j hk => ho k j (by omega) (by omega)) (fun k j hk hj => ho k j (by omega) (by omega)) h5
      have hpn : eP e_34 a = chE S2 c := by rw [hce]; exact eP_wP _ _ _
      refine j_aload_n X dX6_rebook_37 rfl 2 rfl ?_
      refine jc_callPI0 X hK (m_X0_bookedHours hR2 c hc m_34 hpn) m_X6_82 m_34 p_34 rfl rfl (by decide) (by decide) (Nat.le_of_ble_eq_true rfl) ⟨by decide, by decide⟩ dX6_rebook_38 ?_
      rintro _ _ ⟨v_38, e_38, b_38, rfl, rfl⟩
      exact j_ireturn X E ((T_23, e_34)) rfl ⟨_, rfl, by rw [hno, e_38]; rfl, by rw [hno]; exact hR2⟩ dX6_rebook_41
    · have hno : (decide (S 3 c = 1) && !andN (fun q => !(p q && !spP S 5 c q) || sfB S c q) 50) = true := by rw [c_26, decide_eq_true h31]; rfl
      refine j_bipush (v := (-3)) X dX6_rebook_29 (by decide) ?_
      exact j_ireturn X E ((T_23, e)) rfl ⟨_, rfl, by rw [hno]; rfl, by rw [hno]; exact hR_23⟩ dX6_rebook_31
