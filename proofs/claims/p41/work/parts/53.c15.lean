set_option maxRecDepth 100000 in
set_option maxHeartbeats 4000000 in
theorem m_X6_book {S : MS} {T : CT} {e : CE} (hR : RR S T e) (x y z w : Int32) : CF zX6_book 16 6 0 0 [.int x, .int y, .int z, .int w] (T, e) (pR (bookR S x y z w) (bookS S x y z w)) := by
  intro D Y ad
  refine MT.of [(0, .ref (ad 16)), (1, .int x), (2, .int y), (3, .int z), (4, .int w)] (by decide) rfl (Nat.le_of_ble_eq_true rfl) ?_
  intro K hK X E
  refine j_aload_n X dX6_book_0 rfl 0 rfl ?_
  refine j_iload_n X dX6_book_1 rfl 1 rfl ?_
  refine jc_call16Q1 (mc := 0) (ms := 0) X hK (m_X6_childAt hR _) m_X6_68 rfl (by decide) (by decide) (Nat.le_of_ble_eq_true rfl) ⟨by decide, by decide⟩ dX6_book_2 ?_
  rintro _ _ ⟨rfl, (⟨c_2, a_2, l_2, rfl, x_2, q_2, r_2, m_2, p_2, rfl⟩ | ⟨x_2, rfl⟩)⟩
  · have cl_2 := nI_clamp (n := c_2) (by omega)
    have hx2 : tn (nI c_2) = c_2 := cl_2
    refine j_astore X [(5, _), (0, _), (1, _), (2, _), (3, _), (4, _)] dX6_book_5 (by decide) rfl ?_
    refine j_aload X dX6_book_7 0 rfl ?_
    refine j_ifnull X dX6_book_9 ?_
    refine j_iload_n X dX6_book_12 rfl 3 rfl ?_
    refine jst_call1 X hK (m_X6_isDay _) m_X6_85 (by decide) (by decide) (Nat.le_of_ble_eq_true rfl) ⟨by decide, by decide⟩ dX6_book_13 ?_
    refine b_if_eq (tgt := 28) X dX6_book_16 (by decide) (fun c_16 => ?_) (fun c_16 => ?_)
    · refine j_iconst (v := (-1)) X dX6_book_28 (by decide) ?_
      exact j_ireturn X E ((T, e)) rfl ⟨_, rfl, by unfold bookR; rw [show bookOk S _ y z w = false from by unfold bookOk; rw [c_16, Bool.and_false]; rfl]; rfl, by unfold bookS; rw [show bookOk S _ y z w = false from by unfold bookOk; rw [c_16, Bool.and_false]; rfl]; exact hR⟩ dX6_book_29
    · refine j_iload_n X dX6_book_19 rfl 4 rfl ?_
      refine j_iload X dX6_book_20 5 rfl ?_
      refine jst_call2 X hK (m_X6_isSpan _ _) m_X6_89 (by decide) (by decide) (Nat.le_of_ble_eq_true rfl) ⟨by decide, by decide⟩ dX6_book_22 ?_
      refine b_if_ne (tgt := 30) X dX6_book_25 (by decide) (fun c_25 => ?_) (fun c_25 => ?_)
      · obtain ⟨d, hd4, rfl⟩ := within_0 (by decide) c_16
        obtain ⟨b, e2, hbe, he, rfl, rfl⟩ := isSpan_of c_25
        have td : tn (nI d) = d := nI_clamp (by omega)
        have tb : tn (nI b) = b := nI_clamp (by omega)
        have te : tn (nI e2) = e2 := nI_clamp (by omega)
        have hok : bookOk S (nI c_2) (nI d) (nI b) (nI e2) = true := by unfold bookOk; rw [x_2, c_16, c_25]; rfl
        have hB2 : BD (setSp S 5 c_2 d b e2) := BD_u (BD_u hR.hB (by omega)) (by omega)
        have hI2 : IV (setSp S 5 c_2 d b e2) := IV_span hR.hI hbe he
        have ho : ∀ k j, k ≠ 5 → k ≠ 6 → (setSp S 5 c_2 d b e2) k j = S k j := fun k j h1 h2 => by unfold setSp; rw [uM_nk (by omega), uM_nk (by omega)]
        have h5 : ∀ k j, k = 5 ∨ k = 6 → j / 5 ≠ c_2 → (setSp S 5 c_2 d b e2) k j = S k j := fun k j h1 h2 => by unfold setSp; rw [uM_ni (by omega), uM_ni (by omega)]
        have hno : bookNo S c_2 d b e2 = (decide (S 3 c_2 = 1) && !andN (fun q => !((spP S 5 c_2 q && !dyP d 0 10 q || dyP d b e2 q) && !spP S 5 c_2 q) || sfB S c_2 q) 50) := by unfold bookNo; rw [can_is S (by omega) hbe he]
        refine j_aload_n X dX6_book_30 rfl 1 rfl ?_
        refine j_aload X dX6_book_31 0 rfl ?_
        refine j_aload X dX6_book_33 0 rfl ?_
        refine jc_pget X ly_X0 m_2 p_2 rfl 4 (by decide) f_X6_93 rfl dX6_book_35 ?_
        refine j_iload_n X dX6_book_38 rfl 3 rfl ?_
        refine j_iload_n X dX6_book_39 rfl 4 rfl ?_
        refine j_iload X dX6_book_40 5 rfl ?_
        refine jst_call4 X hK (m_X6_withSpan (spP S 5 c_2) d b e2 (by omega) hbe he) m_X6_97 (by decide) (by decide) (Nat.le_of_ble_eq_true rfl) ⟨by decide, by decide⟩ dX6_book_42 ?_
        refine jc_call16I2 (mc := 0) (ms := 0) X hK (m_X6_rebook hR c_2 (by omega) m_2 p_2 r_2 q_2 (fun q => spP S 5 c_2 q && !dyP d 0 10 q || dyP d b e2 q) (S2 := (setSp S 5 c_2 d b e2)) (fun q hq => (spP_set (by omega) hq).symm) hB2 hI2 ho h5) m_X6_101 rfl (by decide) (by decide) (Nat.le_of_ble_eq_true rfl) ⟨by decide, by decide⟩ dX6_book_45 ?_
        rintro _ ⟨T_45, e_45⟩ ⟨rfl, hR_45⟩
        exact j_ireturn X E ((T_45, e_45)) rfl ⟨_, rfl, by unfold bookR; rw [hok, if_pos rfl, hx2, td, tb, te, hno], by unfold bookS; rw [hok, if_pos rfl, hx2, td, tb, te, hno]; exact hR_45⟩ dX6_book_48
      · refine j_iconst (v := (-1)) X dX6_book_28 (by decide) ?_
        exact j_ireturn X E ((T, e)) rfl ⟨_, rfl, by unfold bookR; rw [show bookOk S _ y z w = false from by unfold bookOk; rw [c_25, Bool.and_false]]; rfl, by unfold bookS; rw [show bookOk S _ y z w = false from by unfold bookOk; rw [c_25, Bool.and_false]]; exact hR⟩ dX6_book_29
  · refine j_astoreN X [(5, _), (0, _), (1, _), (2, _), (3, _), (4, _)] dX6_book_5 (by decide) rfl ?_
    refine j_aloadN X dX6_book_7 0 rfl ?_
    refine j_ifnullN (tgt := 28) X dX6_book_9 (by decide) ?_
    refine j_iconst (v := (-1)) X dX6_book_28 (by decide) ?_
    exact j_ireturn X E ((T, e)) rfl ⟨_, rfl, by unfold bookR; rw [show bookOk S _ y z w = false from by unfold bookOk; rw [x_2]; rfl]; rfl, by unfold bookS; rw [show bookOk S _ y z w = false from by unfold bookOk; rw [x_2]; rfl]; exact hR⟩ dX6_book_29
set_option maxRecDepth 100000 in
set_option maxHeartbeats 4000000 in
theorem m_X6_work {S : MS} {T : CT} {e : CE} (hR : RR S T e) (x y z w : Int32) : CF zX6_work 16 4 0 0 [.int x, .int y, .int z, .int w] (T, e) (pR (workR S x y z w) (workS S x y z w)) := by
  intro D Y ad
  refine MT.of [(0, .ref (ad 16)), (1, .int x), (2, .int y), (3, .int z), (4, .int w)] (by decide) rfl (Nat.le_of_ble_eq_true rfl) ?_
  intro K hK X E
  refine j_aload_n X dX6_work_0 rfl 0 rfl ?_
  refine j_iload_n X dX6_work_1 rfl 1 rfl ?_
  refine jc_call16Q1 (mc := 0) (ms := 0) X hK (m_X6_educatorAt hR _) m_X6_147 rfl (by decide) (by decide) (Nat.le_of_ble_eq_true rfl) ⟨by decide, by decide⟩ dX6_work_2 ?_
  rintro _ _ ⟨rfl, (⟨c_2, a_2, l_2, rfl, x_2, q_2, r_2, m_2, p_2, rfl⟩ | ⟨x_2, rfl⟩)⟩
  · have cl_2 := nI_clamp (n := c_2) (by omega)
    have hx2 : tn (nI c_2) = c_2 := cl_2
    refine j_astore X [(5, _), (0, _), (1, _), (2, _), (3, _), (4, _)] dX6_work_5 (by decide) rfl ?_
    refine j_aload X dX6_work_7 0 rfl ?_
    refine j_ifnull X dX6_work_9 ?_
    refine j_iload_n X dX6_work_12 rfl 3 rfl ?_
    refine jst_call1 X hK (m_X6_isDay _) m_X6_85 (by decide) (by decide) (Nat.le_of_ble_eq_true rfl) ⟨by decide, by decide⟩ dX6_work_13 ?_
    refine b_if_eq (tgt := 28) X dX6_work_16 (by decide) (fun c_16 => ?_) (fun c_16 => ?_)
    · refine j_iconst (v := (-1)) X dX6_work_28 (by decide) ?_
      exact j_ireturn X E ((T, e)) rfl ⟨_, rfl, by unfold workR; rw [show workOk S _ y z w = false from by unfold workOk; rw [c_16, Bool.and_false]; rfl]; rfl, by unfold workS; rw [show workOk S _ y z w = false from by unfold workOk; rw [c_16, Bool.and_false]; rfl]; exact hR⟩ dX6_work_29
    · refine j_iload_n X dX6_work_19 rfl 4 rfl ?_
      refine j_iload X dX6_work_20 5 rfl ?_
      refine jst_call2 X hK (m_X6_isSpan _ _) m_X6_89 (by decide) (by decide) (Nat.le_of_ble_eq_true rfl) ⟨by decide, by decide⟩ dX6_work_22 ?_
      refine b_if_ne (tgt := 30) X dX6_work_25 (by decide) (fun c_25 => ?_) (fun c_25 => ?_)
      · obtain ⟨d, hd4, rfl⟩ := within_0 (by decide) c_16
        obtain ⟨b, e2, hbe, he, rfl, rfl⟩ := isSpan_of c_25
        have td : tn (nI d) = d := nI_clamp (by omega)
        have tb : tn (nI b) = b := nI_clamp (by omega)
        have te : tn (nI e2) = e2 := nI_clamp (by omega)
        have hok : workOk S (nI c_2) (nI d) (nI b) (nI e2) = true := by unfold workOk; rw [x_2, c_16, c_25]; rfl
        have hB2 : BD (setSp S 8 c_2 d b e2) := BD_u (BD_u hR.hB (by omega)) (by omega)
        have hI2 : IV (setSp S 8 c_2 d b e2) := IV_work hR.hI hbe he
        refine j_aload X dX6_work_30 0 rfl ?_
        refine j_aload X dX6_work_32 0 rfl ?_
        refine jc_pget X ly_X2 m_2 p_2 rfl 0 (by decide) f_X6_153 rfl dX6_work_34 ?_
        refine j_iload_n X dX6_work_37 rfl 3 rfl ?_
        refine j_iload_n X dX6_work_38 rfl 4 rfl ?_
        refine j_iload X dX6_work_39 5 rfl ?_
        refine jst_call4 X hK (m_X6_withSpan (spP S 8 c_2) d b e2 (by omega) hbe he) m_X6_97 (by decide) (by decide) (Nat.le_of_ble_eq_true rfl) ⟨by decide, by decide⟩ dX6_work_41 ?_
        refine jc_pput X ly_X2 tyX2 tyX2_ok nmX2 m_2 p_2 rfl 0 (by decide) f_X6_153 rfl rfl rfl rfl (Nat.le_of_ble_eq_true rfl) dX6_work_44 (fun e_44 ee_44 => ?_)
        have m_44 := mem_wP ee_44 m_2
        have p_44 := pos_wP ee_44
        have hmk : msk (fun q => spP S 8 c_2 q && !dyP d 0 10 q || dyP d b e2 q) 50 = msk (spP (setSp S 8 c_2 d b e2) 8 c_2) 50 := msk_congr (fun q hq => (spP_set (by omega) hq).symm)
        rw [hmk] at ee_44 p_44
        have hce : e_44 = wP e a_2 (edE (setSp S 8 c_2 d b e2) c_2) := by rw [ee_44]; unfold edE setSp; rw [hoP_uM (by decide), hoP_uM (by decide)]; rfl
        have hR2 : RR (setSp S 8 c_2 d b e2) T e_44 := by rw [hce]; exact hR.educ (by omega) r_2 q_2 hB2 hI2 (fun k j hk => by unfold setSp; rw [uM_nk (by omega), uM_nk (by omega)]) (fun k j h1 h2 => by unfold setSp; rw [uM_ni (by omega), uM_ni (by omega)]) (fun j hj => by unfold setSp; rw [uM_nk (by omega), uM_nk (by omega)])
        have hcnt := m_bits (spP (setSp S 8 c_2 d b e2) 8 c_2) 50 (by decide) (work_cnt hI2 (x := c_2) (by omega))
        have hpn : eP e_44 a_2 = edE (setSp S 8 c_2 d b e2) c_2 := by rw [hce]; exact eP_wP _ _ _
        refine j_aload X dX6_work_47 0 rfl ?_
        refine jc_pget X ly_X2 m_44 p_44 rfl 0 (by decide) f_X6_153 rfl dX6_work_49 ?_
        refine jst_call1 X hK (hcnt) m_X6_156 (by decide) (by decide) (Nat.le_of_ble_eq_true rfl) ⟨by decide, by decide⟩ dX6_work_52 ?_
        exact j_ireturn X E ((T, e_44)) rfl ⟨_, rfl, by unfold workR; rw [hok, if_pos rfl, hx2, td, tb, te], by unfold workS; rw [hok, if_pos rfl, hx2, td, tb, te]; exact hR2⟩ dX6_work_55
      · refine j_iconst (v := (-1)) X dX6_work_28 (by decide) ?_
        exact j_ireturn X E ((T, e)) rfl ⟨_, rfl, by unfold workR; rw [show workOk S _ y z w = false from by unfold workOk; rw [c_25, Bool.and_false]]; rfl, by unfold workS; rw [show workOk S _ y z w = false from by unfold workOk; rw [c_25, Bool.and_false]]; exact hR⟩ dX6_work_29
  · refine j_astoreN X [(5, _), (0, _), (1, _), (2, _), (3, _), (4, _)] dX6_work_5 (by decide) rfl ?_
    refine j_aloadN X dX6_work_7 0 rfl ?_
    refine j_ifnullN (tgt := 28) X dX6_work_9 (by decide) ?_
    refine j_iconst (v := (-1)) X dX6_work_28 (by decide) ?_
    exact j_ireturn X E ((T, e)) rfl ⟨_, rfl, by unfold workR; rw [show workOk S _ y z w = false from by unfold workOk; rw [x_2]; rfl]; rfl, by unfold workS; rw [show workOk S _ y z w = false from by unfold workOk; rw [x_2]; rfl]; exact hR⟩ dX6_work_29
