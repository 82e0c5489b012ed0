set_option maxRecDepth 100000 in
set_option maxHeartbeats 4000000 in
theorem m_X6_childAt {S : MS} {G : Nat → Nat} {T : CT} {e : CE} (hR : RG S G T e) (x : Int32) : CF zX6_childAt 16 1 0 0 [.int x] (T, e) (pQ (fun r u => (T, e) = u ∧ OCp S e x r)) := by
  intro D Y ad
  refine MT.of [(0, .ref (ad 16)), (1, .int x)] (by decide) rfl (Nat.le_of_ble_eq_true rfl) ?_
  intro K hK X E
  refine j_iload_n X dX6_childAt_0 rfl 1 rfl ?_
  refine j_if_lt (tgt := 13) X dX6_childAt_1 (by decide) (fun c_1 => ?_) (fun c_1 => ?_)
  · refine j_aconst_null X dX6_childAt_13 ?_
    exact j_areturnN X E ((T, e)) rfl ⟨none, rfl, rfl, Or.inr ⟨by unfold hasC; rw [nat_wi (by decide)]; simp [c_1], rfl⟩⟩ dX6_childAt_14
  · refine j_iload_n X dX6_childAt_4 rfl 1 rfl ?_
    refine j_aload_n X dX6_childAt_5 rfl 0 rfl ?_
    refine j_getf X ly_X6 0 rfl rfl 0 (by decide) f_X6_11 rfl dX6_childAt_6 ?_
    refine jc_len_r0 X dX6_childAt_9 ?_
    refine j_icmp_lt (tgt := 15) X dX6_childAt_10 (by decide) (fun c_10 => ?_) (fun c_10 => ?_)
    · obtain ⟨c, hc, rfl⟩ := nat_in (by decide) c_1 (i_lt_n c_10)
      refine j_aload_n X dX6_childAt_15 rfl 0 rfl ?_
      refine j_getf X ly_X6 0 rfl rfl 0 (by decide) f_X6_11 rfl dX6_childAt_16 ?_
      refine j_iload_n X dX6_childAt_19 rfl 1 rfl ?_
      refine jc_ch X hR (by omega) dX6_childAt_20 (fun a_20 q_20 r_20 m_20 p_20 => ?_) (fun q_20 r_20 => ?_)
      · exact j_areturnR X E ((T, e)) rfl ⟨some _, rfl, rfl, Or.inl ⟨c, _, hc, rfl, hasC_t hc q_20, q_20, r_20, m_20, p_20, rfl⟩⟩ dX6_childAt_21
      · exact j_areturnN X E ((T, e)) rfl ⟨none, rfl, rfl, Or.inr ⟨hasC_f hc q_20, rfl⟩⟩ dX6_childAt_21
    · refine j_aconst_null X dX6_childAt_13 ?_
      exact j_areturnN X E ((T, e)) rfl ⟨none, rfl, rfl, Or.inr ⟨by unfold hasC; rw [nat_wi (by decide)]; simp [i_nlt c_10], rfl⟩⟩ dX6_childAt_14
set_option maxRecDepth 100000 in
set_option maxHeartbeats 4000000 in
theorem m_X6_educatorAt {S : MS} {G : Nat → Nat} {T : CT} {e : CE} (hR : RG S G T e) (x : Int32) : CF zX6_educatorAt 16 1 0 0 [.int x] (T, e) (pQ (fun r u => (T, e) = u ∧ OEp S e x r)) := by
  intro D Y ad
  refine MT.of [(0, .ref (ad 16)), (1, .int x)] (by decide) rfl (Nat.le_of_ble_eq_true rfl) ?_
  intro K hK X E
  refine j_iload_n X dX6_educatorAt_0 rfl 1 rfl ?_
  refine j_if_lt (tgt := 13) X dX6_educatorAt_1 (by decide) (fun c_1 => ?_) (fun c_1 => ?_)
  · refine j_aconst_null X dX6_educatorAt_13 ?_
    exact j_areturnN X E ((T, e)) rfl ⟨none, rfl, rfl, Or.inr ⟨by unfold hasE; rw [nat_wi (by decide)]; simp [c_1], rfl⟩⟩ dX6_educatorAt_14
  · refine j_iload_n X dX6_educatorAt_4 rfl 1 rfl ?_
    refine j_aload_n X dX6_educatorAt_5 rfl 0 rfl ?_
    refine j_getf X ly_X6 0 rfl rfl 1 (by decide) f_X6_17 rfl dX6_educatorAt_6 ?_
    refine jc_len_r1 X dX6_educatorAt_9 ?_
    refine j_icmp_lt (tgt := 15) X dX6_educatorAt_10 (by decide) (fun c_10 => ?_) (fun c_10 => ?_)
    · obtain ⟨c, hc, rfl⟩ := nat_in (by decide) c_1 (i_lt_n c_10)
      refine j_aload_n X dX6_educatorAt_15 rfl 0 rfl ?_
      refine j_getf X ly_X6 0 rfl rfl 1 (by decide) f_X6_17 rfl dX6_educatorAt_16 ?_
      refine j_iload_n X dX6_educatorAt_19 rfl 1 rfl ?_
      refine jc_ed X hR (by omega) dX6_educatorAt_20 (fun a_20 q_20 r_20 m_20 p_20 => ?_) (fun q_20 r_20 => ?_)
      · exact j_areturnR X E ((T, e)) rfl ⟨some _, rfl, rfl, Or.inl ⟨c, _, hc, rfl, hasE_t hc q_20, q_20, r_20, m_20, p_20, rfl⟩⟩ dX6_educatorAt_21
      · exact j_areturnN X E ((T, e)) rfl ⟨none, rfl, rfl, Or.inr ⟨hasE_f hc q_20, rfl⟩⟩ dX6_educatorAt_21
    · refine j_aconst_null X dX6_educatorAt_13 ?_
      exact j_areturnN X E ((T, e)) rfl ⟨none, rfl, rfl, Or.inr ⟨by unfold hasE; rw [nat_wi (by decide)]; simp [i_nlt c_10], rfl⟩⟩ dX6_educatorAt_14
set_option maxRecDepth 100000 in
set_option maxHeartbeats 4000000 in
theorem m_X6_childAtN {S : MS} {G : Nat → Nat} {T : CT} {e : CE} (hR : RG S G T e) (i : Nat) (hi : i < 24) : CF zX6_childAt 16 1 0 0 [.int (nI i)] (T, e) (pQ (fun r u => (T, e) = u ∧ OCn S e i r)) := by
  intro D Y ad
  refine MT.of [(0, .ref (ad 16)), (1, .int (nI i))] (by decide) rfl (Nat.le_of_ble_eq_true rfl) ?_
  intro K hK X E
  refine j_iload_n X dX6_childAt_0 rfl 1 rfl ?_
  refine n_if_lt (tgt := 13) X dX6_childAt_1 (by decide) (by omega) (fun c_1 => ?_) (fun c_1 => ?_)
  · exact absurd c_1 (by omega)
  · refine j_iload_n X dX6_childAt_4 rfl 1 rfl ?_
    refine j_aload_n X dX6_childAt_5 rfl 0 rfl ?_
    refine j_getf X ly_X6 0 rfl rfl 0 (by decide) f_X6_11 rfl dX6_childAt_6 ?_
    refine jc_len_r0 X dX6_childAt_9 ?_
    refine n_icmp_lt (tgt := 15) X dX6_childAt_10 (by decide) (by omega) (by omega) (fun c_10 => ?_) (fun c_10 => ?_)
    · refine j_aload_n X dX6_childAt_15 rfl 0 rfl ?_
      refine j_getf X ly_X6 0 rfl rfl 0 (by decide) f_X6_11 rfl dX6_childAt_16 ?_
      refine j_iload_n X dX6_childAt_19 rfl 1 rfl ?_
      refine jc_ch X hR (by omega) dX6_childAt_20 (fun a_20 q_20 r_20 m_20 p_20 => ?_) (fun q_20 r_20 => ?_)
      · exact j_areturnR X E ((T, e)) rfl ⟨some _, rfl, rfl, Or.inl ⟨_, q_20, r_20, m_20, p_20, rfl⟩⟩ dX6_childAt_21
      · exact j_areturnN X E ((T, e)) rfl ⟨none, rfl, rfl, Or.inr ⟨q_20, r_20, rfl⟩⟩ dX6_childAt_21
    · exact absurd c_10 (by omega)
set_option maxRecDepth 100000 in
set_option maxHeartbeats 4000000 in
theorem m_X6_children {S : MS} {G : Nat → Nat} {T : CT} {e : CE} (hR : RG S G T e) : CF zX6_children 16 1 0 0 [] (T, e) (pNc (T, e) (childN S) 24) := by
  intro D Y ad
  refine MT.of [(0, .ref (ad 16))] (by decide) rfl (Nat.le_of_ble_eq_true rfl) ?_
  intro K hK X E
  refine j_iconst (v := nI 0) X dX6_children_0 (by decide) ?_
  refine j_istore_n X [(1, _), (0, _)] dX6_children_1 rfl (by decide) rfl ?_
  refine j_aload_n X dX6_children_2 rfl 1 rfl ?_
  refine j_getf X ly_X6 0 rfl rfl 0 (by decide) f_X6_11 rfl dX6_children_3 ?_
  refine j_astore_n X [(2, _), (1, _), (0, _)] dX6_children_6 rfl (by decide) rfl ?_
  refine j_aload_n X dX6_children_7 rfl 0 rfl ?_
  refine jc_len_r0 X dX6_children_8 ?_
  refine j_istore_n X [(3, _), (2, _), (1, _), (0, _)] dX6_children_9 rfl (by decide) rfl ?_
  refine j_iconst (v := nI 0) X dX6_children_10 (by decide) ?_
  refine j_istore X [(4, _), (3, _), (2, _), (1, _), (0, _)] dX6_children_11 (by decide) rfl ?_
  have L13 : ∀ (n : Nat) (i s : Nat), (i ≤ 24) → (s = sm (S 0) i) → (24 + 1 ≤ i + n) → JJ K D 0 0 (WC ad Y (T, e)) [(0, .ref (ad 16)), (1, .int (nI s)), (2, .ref (ad 10)), (3, .int (nI 24)), (4, .int (nI i))] 13 [] := by
    intro n
    induction n with
    | zero =>
      intro i s hi hs hf13
      exact absurd hf13 (by omega)
    | succ n13 ih13 =>
      intro i s hi hs hf13
      refine j_iload X dX6_children_13 4 rfl ?_
      refine j_iload_n X dX6_children_15 rfl 3 rfl ?_
      refine n_icmp_ge (tgt := 39) X dX6_children_16 (by decide) (by omega) (by omega) (fun c_16 => ?_) (fun c_16 => ?_)
      · have hi2 : i = 24 := by omega
        subst hi2
        have hle : sm (S 0) 24 ≤ 24 * 1 := sm_le (fun i hi => (hR.hI.2.2.1 i hi).1)
        refine j_iload_n X dX6_children_39 rfl 1 rfl ?_
        exact j_ireturn X E ((T, e)) rfl ⟨_, rfl, _, hs, by omega, rfl, rfl⟩ dX6_children_40
      · refine j_aload_n X dX6_children_19 rfl 2 rfl ?_
        refine j_iload X dX6_children_20 4 rfl ?_
        refine jc_ch X hR (by omega) dX6_children_22 (fun a_22 q_22 r_22 m_22 p_22 => ?_) (fun q_22 r_22 => ?_)
        · refine j_astore X [(5, _), (0, _), (1, _), (2, _), (3, _), (4, _)] dX6_children_23 (by decide) rfl ?_
          refine j_aload X dX6_children_25 0 rfl ?_
          refine j_ifnull X dX6_children_27 ?_
          refine n_iinc X [(1, _), (5, _), (0, _), (2, _), (3, _), (4, _)] dX6_children_30 (q := 2) (b := 1) rfl (by decide) (by decide) rfl ?_
          refine n_iinc X [(4, _), (1, _), (5, _), (0, _), (2, _), (3, _)] dX6_children_33 (q := 5) (b := 1) rfl (by decide) (by decide) rfl ?_
          refine j_goto (tgt := 13) X dX6_children_36 (by decide) ?_
          exact j_sub [3, 1, 4, 5, 0] rfl (ih13 _ _ (by omega) (by rw [sm_s, q_22]; omega) (by omega))
        · refine j_astoreN X [(5, _), (0, _), (1, _), (2, _), (3, _), (4, _)] dX6_children_23 (by decide) rfl ?_
          refine j_aloadN X dX6_children_25 0 rfl ?_
          refine j_ifnullN (tgt := 33) X dX6_children_27 (by decide) ?_
          refine n_iinc X [(4, _), (5, _), (0, _), (1, _), (2, _), (3, _)] dX6_children_33 (q := 5) (b := 1) rfl (by decide) (by decide) rfl ?_
          refine j_goto (tgt := 13) X dX6_children_36 (by decide) ?_
          exact j_sub [2, 3, 4, 5, 0] rfl (ih13 _ _ (by omega) (by rw [sm_s, q_22]; omega) (by omega))
  exact j_sub [4, 3, 2, 1, 0] rfl (L13 25 _ _ (by omega) (by rfl) (by omega))
set_option maxRecDepth 100000 in
set_option maxHeartbeats 4000000 in
theorem m_X6_hasAdmittedChild {S : MS} {G : Nat → Nat} {T : CT} {e : CE} (hR : RG S G T e) (f : Nat) (hf : f < 16777216) : CF zX6_hasAdmittedChild 16 1 0 0 [.int (nI f)] (T, e) (pBc (T, e) (orN (famB S f) 24)) := by
  intro D Y ad
  refine MT.of [(0, .ref (ad 16)), (1, .int (nI f))] (by decide) rfl (Nat.le_of_ble_eq_true rfl) ?_
  intro K hK X E
  refine j_aload_n X dX6_hasAdmittedChild_0 rfl 0 rfl ?_
  refine j_getf X ly_X6 0 rfl rfl 0 (by decide) f_X6_11 rfl dX6_hasAdmittedChild_1 ?_
  refine j_astore_n X [(2, _), (0, _), (1, _)] dX6_hasAdmittedChild_4 rfl (by decide) rfl ?_
  refine j_aload_n X dX6_hasAdmittedChild_5 rfl 0 rfl ?_
  refine jc_len_r0 X dX6_hasAdmittedChild_6 ?_
  refine j_istore_n X [(3, _), (2, _), (0, _), (1, _)] dX6_hasAdmittedChild_7 rfl (by decide) rfl ?_
  refine j_iconst (v := nI 0) X dX6_hasAdmittedChild_8 (by decide) ?_
  refine j_istore X [(4, _), (3, _), (2, _), (0, _), (1, _)] dX6_hasAdmittedChild_9 (by decide) rfl ?_
  have L11 : ∀ (n : Nat) (i : Nat), (i ≤ 24) → (orN (famB S f) i = false) → (24 + 1 ≤ i + n) → JJ K D 0 0 (WC ad Y (T, e)) [(0, .ref (ad 16)), (1, .int (nI f)), (2, .ref (ad 10)), (3, .int (nI 24)), (4, .int (nI i))] 11 [] := by
    intro n
    induction n with
    | zero =>
      intro i hi hs hf11
      exact absurd hf11 (by omega)
    | succ n11 ih11 =>
      intro i hi hs hf11
      refine j_iload X dX6_hasAdmittedChild_11 4 rfl ?_
      refine j_iload_n X dX6_hasAdmittedChild_13 rfl 3 rfl ?_
      refine n_icmp_ge (tgt := 53) X dX6_hasAdmittedChild_14 (by decide) (by omega) (by omega) (fun c_14 => ?_) (fun c_14 => ?_)
      · have hi2 : i = 24 := by omega
        subst hi2
        refine j_iconst (v := bI false) X dX6_hasAdmittedChild_53 (by decide) ?_
        exact j_zreturn X E ((T, e)) rfl ⟨_, rfl, by rw [hs], rfl⟩ dX6_hasAdmittedChild_54
      · refine j_aload_n X dX6_hasAdmittedChild_17 rfl 2 rfl ?_
        refine j_iload X dX6_hasAdmittedChild_18 4 rfl ?_
        refine jc_ch X hR (by omega) dX6_hasAdmittedChild_20 (fun a_20 q_20 r_20 m_20 p_20 => ?_) (fun q_20 r_20 => ?_)
        · refine j_astore X [(5, _), (0, _), (1, _), (2, _), (3, _), (4, _)] dX6_hasAdmittedChild_21 (by decide) rfl ?_
          refine j_aload X dX6_hasAdmittedChild_23 0 rfl ?_
          refine j_ifnull X dX6_hasAdmittedChild_25 ?_
          refine j_aload X dX6_hasAdmittedChild_28 0 rfl ?_
          refine jc_pget X ly_X0 m_20 p_20 rfl 3 (by decide) f_X6_78 rfl dX6_hasAdmittedChild_30 ?_
          refine n_name (fun v_30 e_30 => ?_)
          have b_30 : v_30 < 16777216 := by rw [e_30]; exact hR.hB _ _
          refine n_if_eq (tgt := 47) X dX6_hasAdmittedChild_33 (by decide) (by omega) (fun c_33 => ?_) (fun c_33 => ?_)
          · refine n_iinc X [(4, _), (5, _), (0, _), (1, _), (2, _), (3, _)] dX6_hasAdmittedChild_47 (q := 5) (b := 1) rfl (by decide) (by decide) rfl ?_
            refine j_goto (tgt := 11) X dX6_hasAdmittedChild_50 (by decide) ?_
            exact j_sub [2, 3, 4, 5, 0] rfl (ih11 _ (by omega) (by rw [orN, hs]; simp [famB, isIn, c_14, c_33] <;> omega) (by omega))
          · refine j_aload X dX6_hasAdmittedChild_36 0 rfl ?_
            refine jc_pget X ly_X0 m_20 p_20 rfl 0 (by decide) f_X6_132 rfl dX6_hasAdmittedChild_38 ?_
            refine n_name (fun v_38 e_38 => ?_)
            have b_38 : v_38 < 16777216 := by rw [e_38]; exact hR.hB _ _
            refine j_iload_n X dX6_hasAdmittedChild_41 rfl 2 rfl ?_
            refine n_icmp_ne (tgt := 47) X dX6_hasAdmittedChild_42 (by decide) (by omega) (by omega) (fun c_42 => ?_) (fun c_42 => ?_)
            · refine n_iinc X [(4, _), (5, _), (0, _), (1, _), (2, _), (3, _)] dX6_hasAdmittedChild_47 (q := 5) (b := 1) rfl (by decide) (by decide) rfl ?_
              refine j_goto (tgt := 11) X dX6_hasAdmittedChild_50 (by decide) ?_
              exact j_sub [2, 3, 4, 5, 0] rfl (ih11 _ (by omega) (by rw [orN, hs]; simp [famB, isIn, c_14, c_33, c_42] <;> omega) (by omega))
            · refine j_iconst (v := bI true) X dX6_hasAdmittedChild_45 (by decide) ?_
              exact j_zreturn X E ((T, e)) rfl ⟨_, rfl, by rw [orN_iff.mpr ⟨i, c_14, by simp [famB, isIn, q_20]; have := (hR.hI.2.2.1 i c_14).2; omega⟩], rfl⟩ dX6_hasAdmittedChild_46
        · refine j_astoreN X [(5, _), (0, _), (1, _), (2, _), (3, _), (4, _)] dX6_hasAdmittedChild_21 (by decide) rfl ?_
          refine j_aloadN X dX6_hasAdmittedChild_23 0 rfl ?_
          refine j_ifnullN (tgt := 47) X dX6_hasAdmittedChild_25 (by decide) ?_
          refine n_iinc X [(4, _), (5, _), (0, _), (1, _), (2, _), (3, _)] dX6_hasAdmittedChild_47 (q := 5) (b := 1) rfl (by decide) (by decide) rfl ?_
          refine j_goto (tgt := 11) X dX6_hasAdmittedChild_50 (by decide) ?_
          exact j_sub [2, 3, 4, 5, 0] rfl (ih11 _ (by omega) (by rw [orN, hs]; simp [famB, isIn, c_14] <;> omega) (by omega))
  exact j_sub [3, 4, 2, 1, 0] rfl (L11 25 _ (by omega) (by rfl) (by omega))
set_option maxRecDepth 100000 in
set_option maxHeartbeats 4000000 in
theorem m_X6_pointsOf {S : MS} {G : Nat → Nat} {T : CT} {e : CE} (hR : RG S G T e) {a : Nat} (c : Nat) (hc : c < 24) (hm : a ∈ eL e) (hp : eP e a = chE S c) (h3 : S 3 c = 0) : CF zX6_pointsOf 16 3 0 0 [.ref a] (T, e) (pNc (T, e) (ptsN S c) 1000) := by
  intro D Y ad
  refine MT.of [(0, .ref (ad 16)), (1, .ref a)] (by decide) rfl (Nat.le_of_ble_eq_true rfl) ?_
  intro K hK X E
  refine j_bipush (v := nI 10) X dX6_pointsOf_0 (by decide) ?_
  refine j_aload_n X dX6_pointsOf_2 rfl 1 rfl ?_
  refine jc_pget X ly_X0 hm hp rfl 2 (by decide) f_X6_114 rfl dX6_pointsOf_3 ?_
  refine n_name (fun v_3 e_3 => ?_)
  have b_3 : v_3 < 16777216 := by rw [e_3]; exact hR.hB _ _
  refine n_imul X dX6_pointsOf_6 ?_
  refine j_aload_n X dX6_pointsOf_7 rfl 1 rfl ?_
  refine jc_callPI0 X hK (m_X0_bookedHours hR _ (by omega) hm hp) m_X6_82 hm hp rfl rfl (by decide) (by decide) (Nat.le_of_ble_eq_true rfl) ⟨by decide, by decide⟩ dX6_pointsOf_8 ?_
  rintro _ _ ⟨v_8, e_8, b_8, rfl, rfl⟩
  refine n_iadd X dX6_pointsOf_11 ?_
  refine j_istore_n X [(2, _), (0, _), (1, _)] dX6_pointsOf_12 rfl (by decide) rfl ?_
  have hi4 := hR.hI.2.2.2.2.2.2.2.1 c hc
  have hfm := sib_fam h3
  refine j_aload_n X dX6_pointsOf_13 rfl 1 rfl ?_
  refine j_aload_n X dX6_pointsOf_14 rfl 2 rfl ?_
  refine jc_pget X ly_X0 hm hp rfl 0 (by decide) f_X6_132 rfl dX6_pointsOf_15 ?_
  refine n_name (fun v_15 e_15 => ?_)
  have b_15 : v_15 < 16777216 := by rw [e_15]; exact hR.hB _ _
  refine jc_call16I1 (mc := 0) (ms := 0) X hK (m_X6_hasAdmittedChild hR _ (by omega)) m_X6_135 rfl (by decide) (by decide) (Nat.le_of_ble_eq_true rfl) ⟨by decide, by decide⟩ dX6_pointsOf_18 ?_
  rintro _ _ ⟨rfl, rfl⟩
  refine b_if_eq (tgt := 31) X dX6_pointsOf_21 (by decide) (fun c_21 => ?_) (fun c_21 => ?_)
  · refine j_iload_n X dX6_pointsOf_31 rfl 0 rfl ?_
    exact j_ireturn X E ((T, e)) rfl ⟨_, rfl, _, by unfold ptsN; rw [hfm, ← e_15, c_21, if_neg (by decide)]; omega, by omega, rfl, rfl⟩ dX6_pointsOf_32
  · refine j_iload_n X dX6_pointsOf_24 rfl 0 rfl ?_
    refine j_bipush (v := nI 25) X dX6_pointsOf_25 (by decide) ?_
    refine n_iadd X dX6_pointsOf_27 ?_
    refine j_goto (tgt := 32) X dX6_pointsOf_28 (by decide) ?_
    exact j_ireturn X E ((T, e)) rfl ⟨_, rfl, _, by unfold ptsN; rw [hfm, ← e_15, c_21, if_pos rfl]; omega, by omega, rfl, rfl⟩ dX6_pointsOf_32
set_option maxRecDepth 100000 in
set_option maxHeartbeats 4000000 in
theorem m_X6_countHeads {S : MS} {G : Nat → Nat} {T : CT} {e : CE} (hR : RG S G T e) (q : Nat) (hq : q < 50) : CF zX6_countHeads 16 3 0 0 [.int (nI q)] (T, e) (pVs [7] T e (fun T' => ∀ g, g < 3 → T' 7 g = nI (presN S (q / 10) (q % 10) (nI g)))) := by
  intro D Y ad
  refine MT.of [(0, .ref (ad 16)), (1, .int (nI q))] (by decide) rfl (Nat.le_of_ble_eq_true rfl) ?_
  intro K hK X E
  refine j_aload_n X dX6_countHeads_0 rfl 0 rfl ?_
  refine j_getf X ly_X6 0 rfl rfl 9 (by decide) f_X6_55 rfl dX6_countHeads_1 ?_
  refine jc_call15V0 (mc := 0) (ms := 0) X hK (m_X3_clear) m_X6_202 rfl (by decide) (by decide) (Nat.le_of_ble_eq_true rfl) ⟨by decide, by decide⟩ dX6_countHeads_4 ?_
  rintro _ ⟨T_4, rfl, s_4, z_4⟩
  have hR_4 := hR.sm s_4 (by decide)
  refine j_aload_n X dX6_countHeads_7 rfl 0 rfl ?_
  refine j_getf X ly_X6 0 rfl rfl 0 (by decide) f_X6_11 rfl dX6_countHeads_8 ?_
  refine j_astore_n X [(2, _), (0, _), (1, _)] dX6_countHeads_11 rfl (by decide) rfl ?_
  refine j_aload_n X dX6_countHeads_12 rfl 0 rfl ?_
  refine jc_len_r0 X dX6_countHeads_13 ?_
  refine j_istore_n X [(3, _), (2, _), (0, _), (1, _)] dX6_countHeads_14 rfl (by decide) rfl ?_
  refine j_iconst (v := nI 0) X dX6_countHeads_15 (by decide) ?_
  refine j_istore X [(4, _), (3, _), (2, _), (0, _), (1, _)] dX6_countHeads_16 (by decide) rfl ?_
  have L18 : ∀ (n : Nat) (i : Nat) (T1 : CT), (i ≤ 24) → (SM [7] T T1) → (RG S G T1 e) → (∀ g, g < 3 → T1 7 g = nI (sm (fun c => ct (presB S (q / 10) (q % 10) (nI g) c)) i)) → (24 + 1 ≤ i + n) → JJ K D 0 0 (WC ad Y (T1, e)) [(0, .ref (ad 16)), (1, .int (nI q)), (2, .ref (ad 10)), (3, .int (nI 24)), (4, .int (nI i))] 18 [] := by
    intro n
    induction n with
    | zero =>
      intro i T1 hi hs hR1 hcn hf18
      exact absurd hf18 (by omega)
    | succ n18 ih18 =>
      intro i T1 hi hs hR1 hcn hf18
      refine j_iload X dX6_countHeads_18 4 rfl ?_
      refine j_iload_n X dX6_countHeads_20 rfl 3 rfl ?_
      refine n_icmp_ge (tgt := 73) X dX6_countHeads_21 (by decide) (by omega) (by omega) (fun c_21 => ?_) (fun c_21 => ?_)
      · have hi2 : i = 24 := by omega
        subst hi2
        exact j_return X E ((T1, e)) rfl ⟨rfl, _, rfl, hs, hcn⟩ dX6_countHeads_73
      · refine j_aload_n X dX6_countHeads_24 rfl 2 rfl ?_
        refine j_iload X dX6_countHeads_25 4 rfl ?_
        refine jc_ch X hR1 (by omega) dX6_countHeads_27 (fun a_27 q_27 r_27 m_27 p_27 => ?_) (fun q_27 r_27 => ?_)
        · refine j_astore X [(5, _), (0, _), (1, _), (2, _), (3, _), (4, _)] dX6_countHeads_28 (by decide) rfl ?_
          refine j_aload X dX6_countHeads_30 0 rfl ?_
          refine j_ifnull X dX6_countHeads_32 ?_
          refine j_aload X dX6_countHeads_35 0 rfl ?_
          refine jc_pget X ly_X0 m_27 p_27 rfl 3 (by decide) f_X6_78 rfl dX6_countHeads_37 ?_
          refine n_name (fun v_37 e_37 => ?_)
          have b_37 : v_37 < 16777216 := by rw [e_37]; exact hR1.hB _ _
          refine n_if_eq (tgt := 67) X dX6_countHeads_40 (by decide) (by omega) (fun c_40 => ?_) (fun c_40 => ?_)
          · have hin : isIn S i = false := by unfold isIn; rw [decide_eq_false (show ¬ S 3 i = 1 by omega), Bool.and_false]
            refine n_iinc X [(4, _), (5, _), (0, _), (1, _), (2, _), (3, _)] dX6_countHeads_67 (q := 5) (b := 1) rfl (by decide) (by decide) rfl ?_
            refine j_goto (tgt := 18) X dX6_countHeads_70 (by decide) ?_
            exact j_sub [2, 3, 4, 5, 0] rfl (ih18 _ _ (by omega) (by exact hs) (by exact hR1) (by intro g hg; rw [hcn g hg, sm_s, pres_g hg]; rw [hin]; rfl) (by omega))
          · have h31 : S 3 i = 1 := by have := (hR.hI.2.2.1 i (by omega)).2; omega
            have hin : isIn S i = true := by unfold isIn; rw [decide_eq_true q_27, decide_eq_true h31]; rfl
            refine j_aload X dX6_countHeads_43 0 rfl ?_
            refine jc_pget X ly_X0 m_27 p_27 rfl 4 (by decide) f_X6_93 rfl dX6_countHeads_45 ?_
            refine j_iload_n X dX6_countHeads_48 rfl 2 rfl ?_
            refine jst_call2 X hK (m_X6_hasHour _ _ (by omega)) m_X6_205 (by decide) (by decide) (Nat.le_of_ble_eq_true rfl) ⟨by decide, by decide⟩ dX6_countHeads_49 ?_
            refine b_if_eq (tgt := 67) X dX6_countHeads_52 (by decide) (fun c_52 => ?_) (fun c_52 => ?_)
            · have hbk : isBkd S i (q / 10) (q % 10) = false := c_52
              refine n_iinc X [(4, _), (5, _), (0, _), (1, _), (2, _), (3, _)] dX6_countHeads_67 (q := 5) (b := 1) rfl (by decide) (by decide) rfl ?_
              refine j_goto (tgt := 18) X dX6_countHeads_70 (by decide) ?_
              exact j_sub [2, 3, 4, 5, 0] rfl (ih18 _ _ (by omega) (by exact hs) (by exact hR1) (by intro g hg; rw [hcn g hg, sm_s, pres_g hg]; rw [hin, hbk]; rfl) (by omega))
            · have hbk : isBkd S i (q / 10) (q % 10) = true := c_52
              refine j_aload_n X dX6_countHeads_55 rfl 1 rfl ?_
              refine j_getf X ly_X6 0 rfl rfl 9 (by decide) f_X6_55 rfl dX6_countHeads_56 ?_
              refine j_aload X dX6_countHeads_59 0 rfl ?_
              refine jc_callPI0 X hK (m_X0_group hR1 _ (by omega) m_27 p_27) m_X6_209 m_27 p_27 rfl rfl (by decide) (by decide) (Nat.le_of_ble_eq_true rfl) ⟨by decide, by decide⟩ dX6_countHeads_61 ?_
              rintro _ _ ⟨v_61, e_61, b_61, rfl, rfl⟩
              refine jc_call15V1 (mc := 0) (ms := 0) X hK (m_X3_add (fun g => sm (fun c => ct (presB S (q / 10) (q % 10) (nI g) c)) i) hcn (fun g hg => Nat.le_trans (sm_le (b := 1) (fun i _ => ct_le _)) (by omega)) _ (by omega)) m_X6_212 rfl (by decide) (by decide) (Nat.le_of_ble_eq_true rfl) ⟨by decide, by decide⟩ dX6_countHeads_64 ?_
              rintro _ ⟨T_64, rfl, s_64, h_64⟩
              have hR_64 := hR1.sm s_64 (by decide)
              refine n_iinc X [(4, _), (5, _), (0, _), (1, _), (2, _), (3, _)] dX6_countHeads_67 (q := 5) (b := 1) rfl (by decide) (by decide) rfl ?_
              refine j_goto (tgt := 18) X dX6_countHeads_70 (by decide) ?_
              exact j_sub [2, 3, 4, 5, 0] rfl (ih18 _ _ (by omega) (by exact (hs.trans s_64)) (by exact hR_64) (by intro g hg; rw [h_64 g hg, sm_s, pres_g hg]; rw [hin, hbk, e_61]; congr 3; simp; omega) (by omega))
        · have hin : isIn S i = false := by unfold isIn; rw [q_27]; rfl
          refine j_astoreN X [(5, _), (0, _), (1, _), (2, _), (3, _), (4, _)] dX6_countHeads_28 (by decide) rfl ?_
          refine j_aloadN X dX6_countHeads_30 0 rfl ?_
          refine j_ifnullN (tgt := 67) X dX6_countHeads_32 (by decide) ?_
          refine n_iinc X [(4, _), (5, _), (0, _), (1, _), (2, _), (3, _)] dX6_countHeads_67 (q := 5) (b := 1) rfl (by decide) (by decide) rfl ?_
          refine j_goto (tgt := 18) X dX6_countHeads_70 (by decide) ?_
          exact j_sub [2, 3, 4, 5, 0] rfl (ih18 _ _ (by omega) (by exact hs) (by exact hR1) (by intro g hg; rw [hcn g hg, sm_s, pres_g hg]; rw [hin]; rfl) (by omega))
  exact j_sub [3, 4, 2, 1, 0] rfl (L18 25 _ _ (by omega) (by exact s_4) (by exact hR_4) (by intro g hg; exact z_4 g hg) (by omega))
