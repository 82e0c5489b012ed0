set_option maxRecDepth 100000 in
set_option maxHeartbeats 4000000 in
theorem m_X6_priorityOf {S : MS} {G : Nat → Nat} {T : CT} {e : CE} (hR : RG S G T e) {a : Nat} (c : Nat) (hc : c < 24) (hm : a ∈ eL e) (hp : eP e a = chE S c) (h3 : S 3 c = 0) : CF zX6_priorityOf 16 4 0 0 [.ref a, .int (nI c)] (T, e) (pNc (T, e) (prN S c) 16777215) := by
  intro D Y ad
  refine MT.of [(0, .ref (ad 16)), (1, .ref a), (2, .int (nI c))] (by decide) rfl (Nat.le_of_ble_eq_true rfl) ?_
  intro K hK X E
  refine j_aload_n X dX6_priorityOf_0 rfl 0 rfl ?_
  refine j_aload_n X dX6_priorityOf_1 rfl 1 rfl ?_
  refine jc_call16I1 (mc := 0) (ms := 0) X hK (m_X6_pointsOf hR _ (by omega) hm hp h3) m_X6_117 rfl (by decide) (by decide) (Nat.le_of_ble_eq_true rfl) ⟨by decide, by decide⟩ dX6_priorityOf_2 ?_
  rintro _ _ ⟨v_2, e_2, b_2, rfl, rfl⟩
  refine j_sipush (v := nI 128) X dX6_priorityOf_5 (by decide) ?_
  refine n_imul X dX6_priorityOf_8 ?_
  refine j_aload_n X dX6_priorityOf_9 rfl 1 rfl ?_
  refine jc_pget X ly_X0 hm hp rfl 1 (by decide) f_X6_75 rfl dX6_priorityOf_10 ?_
  refine n_name (fun v_10 e_10 => ?_)
  have b_10 : v_10 < 16777216 := by rw [e_10]; exact hR.hB _ _
  have hpr := pr_lt hR.hI hc
  have hiv := hR.hI.2.2.2.2.2.2.2.1 c hc
  refine n_iadd X dX6_priorityOf_13 ?_
  refine j_bipush (v := nI 32) X dX6_priorityOf_14 (by decide) ?_
  refine n_imul X dX6_priorityOf_16 ?_
  refine j_bipush (v := nI 31) X dX6_priorityOf_17 (by decide) ?_
  refine n_iadd X dX6_priorityOf_19 ?_
  refine j_iload_n X dX6_priorityOf_20 rfl 2 rfl ?_
  refine n_isub X dX6_priorityOf_21 (by omega) ?_
  exact j_ireturn X E ((T, e)) rfl ⟨_, rfl, _, by unfold prN; rw [e_2, e_10], by unfold prN at hpr; rw [e_2, e_10]; omega, rfl, rfl⟩ dX6_priorityOf_22
set_option maxRecDepth 100000 in
set_option maxHeartbeats 4000000 in
theorem m_X6_notePriorities {S : MS} {G : Nat → Nat} {T : CT} {e : CE} (hR : RG S G T e) : CF zX6_notePriorities 16 5 0 0 [] (T, e) (pVs [8] T e (fun T' => ∀ c, c < 24 → T' 8 c = prI S c)) := by
  intro D Y ad
  refine MT.of [(0, .ref (ad 16))] (by decide) rfl (Nat.le_of_ble_eq_true rfl) ?_
  intro K hK X E
  refine j_iconst (v := nI 0) X dX6_notePriorities_0 (by decide) ?_
  refine j_istore_n X [(1, _), (0, _)] dX6_notePriorities_1 rfl (by decide) rfl ?_
  have L2 : ∀ (n : Nat) (i : Nat) (T1 : CT), (i ≤ 24) → (SM [8] T T1) → (RG S G T1 e) → (∀ c, c < i → T1 8 c = prI S c) → (24 + 1 ≤ i + n) → JJ K D 0 0 (WC ad Y (T1, e)) [(0, .ref (ad 16)), (1, .int (nI i))] 2 [] := by
    intro n
    induction n with
    | zero =>
      intro i T1 hi hs hR1 hpr hf2
      exact absurd hf2 (by omega)
    | succ n2 ih2 =>
      intro i T1 hi hs hR1 hpr hf2
      refine j_iload_n X dX6_notePriorities_2 rfl 1 rfl ?_
      refine j_aload_n X dX6_notePriorities_3 rfl 0 rfl ?_
      refine j_getf X ly_X6 0 rfl rfl 10 (by decide) f_X6_59 rfl dX6_notePriorities_4 ?_
      refine jc_len X (by decide) (by decide) dX6_notePriorities_7 ?_
      refine z_as (nI 24) rfl ?_
      refine n_icmp_ge (tgt := 60) X dX6_notePriorities_8 (by decide) (by omega) (by omega) (fun c_8 => ?_) (fun c_8 => ?_)
      · have hi2 : i = 24 := by omega
        subst hi2
        exact j_return X E ((T1, e)) rfl ⟨rfl, _, rfl, hs, hpr⟩ dX6_notePriorities_60
      · refine j_aload_n X dX6_notePriorities_11 rfl 0 rfl ?_
        refine j_iload_n X dX6_notePriorities_12 rfl 1 rfl ?_
        refine jc_call16Q1 (mc := 0) (ms := 0) X hK (m_X6_childAtN hR1 _ (by omega)) m_X6_68 rfl (by decide) (by decide) (Nat.le_of_ble_eq_true rfl) ⟨by decide, by decide⟩ dX6_notePriorities_13 ?_
        rintro _ _ ⟨rfl, (⟨a_13, q_13, r_13, m_13, p_13, rfl⟩ | ⟨q_13, r_13, rfl⟩)⟩
        · refine j_astore_n X [(2, _), (0, _), (1, _)] dX6_notePriorities_16 rfl (by decide) rfl ?_
          refine j_aload_n X dX6_notePriorities_17 rfl 0 rfl ?_
          refine j_ifnull X dX6_notePriorities_18 ?_
          refine j_aload_n X dX6_notePriorities_21 rfl 0 rfl ?_
          refine jc_pget X ly_X0 m_13 p_13 rfl 3 (by decide) f_X6_78 rfl dX6_notePriorities_22 ?_
          refine n_name (fun v_22 e_22 => ?_)
          have b_22 : v_22 < 16777216 := by rw [e_22]; exact hR1.hB _ _
          refine n_if_ne (tgt := 32) X dX6_notePriorities_25 (by decide) (by omega) (fun c_25 => ?_) (fun c_25 => ?_)
          · have hw : isWt S i = false := by unfold isWt; simp; omega
            refine j_iconst (v := nI 0) X dX6_notePriorities_32 (by decide) ?_
            refine j_istore_n X [(3, _), (2, _), (0, _), (1, _)] dX6_notePriorities_33 rfl (by decide) rfl ?_
            refine j_aload_n X dX6_notePriorities_34 rfl 2 rfl ?_
            refine j_getf X ly_X6 0 rfl rfl 10 (by decide) f_X6_59 rfl dX6_notePriorities_35 ?_
            refine j_iload_n X dX6_notePriorities_38 rfl 3 rfl ?_
            refine j_iload_n X dX6_notePriorities_39 rfl 0 rfl ?_
            refine n_if_eq (tgt := 52) X dX6_notePriorities_40 (by decide) (by omega) (fun c_40 => ?_) (fun c_40 => ?_)
            · refine j_iconst (v := (-1)) X dX6_notePriorities_52 (by decide) ?_
              refine jc_ast X (by decide) (by decide) (by show _ < 24; omega) dX6_notePriorities_53 (fun T_53 eT_53 => ?_)
              refine n_iinc X [(1, _), (3, _), (2, _), (0, _)] dX6_notePriorities_54 (q := 3) (b := 1) rfl (by decide) (by decide) rfl ?_
              refine j_goto (tgt := 2) X dX6_notePriorities_57 (by decide) ?_
              exact j_sub [3, 0] rfl (ih2 _ _ (by omega) (by rw [eT_53]; exact hs.u (by decide)) (by exact hR1.sm (by rw [eT_53]; exact (SM.refl [8] _).u (by decide)) (by decide)) (by intro c hc; rw [eT_53]; by_cases q : c = i; subst q; rw [uI_eq]; unfold prI; rw [hw]; rfl; rw [uI_ni q]; exact hpr c (by omega)) (by omega))
            · exact absurd c_40 (by omega)
          · have hw : isWt S i = true := by unfold isWt; simp; omega
            refine j_iconst (v := nI 1) X dX6_notePriorities_28 (by decide) ?_
            refine j_goto (tgt := 33) X dX6_notePriorities_29 (by decide) ?_
            refine j_istore_n X [(3, _), (2, _), (0, _), (1, _)] dX6_notePriorities_33 rfl (by decide) rfl ?_
            refine j_aload_n X dX6_notePriorities_34 rfl 2 rfl ?_
            refine j_getf X ly_X6 0 rfl rfl 10 (by decide) f_X6_59 rfl dX6_notePriorities_35 ?_
            refine j_iload_n X dX6_notePriorities_38 rfl 3 rfl ?_
            refine j_iload_n X dX6_notePriorities_39 rfl 0 rfl ?_
            refine n_if_eq (tgt := 52) X dX6_notePriorities_40 (by decide) (by omega) (fun c_40 => ?_) (fun c_40 => ?_)
            · exact absurd c_40 (by omega)
            · refine j_aload_n X dX6_notePriorities_43 rfl 2 rfl ?_
              refine j_aload_n X dX6_notePriorities_44 rfl 1 rfl ?_
              refine j_iload_n X dX6_notePriorities_45 rfl 3 rfl ?_
              refine jc_call16I2 (mc := 0) (ms := 0) X hK (m_X6_priorityOf hR1 _ (by omega) m_13 p_13 (by omega)) m_X6_138 rfl (by decide) (by decide) (Nat.le_of_ble_eq_true rfl) ⟨by decide, by decide⟩ dX6_notePriorities_46 ?_
              rintro _ _ ⟨v_46, e_46, b_46, rfl, rfl⟩
              refine j_goto (tgt := 53) X dX6_notePriorities_49 (by decide) ?_
              refine jc_ast X (by decide) (by decide) (by show _ < 24; omega) dX6_notePriorities_53 (fun T_53 eT_53 => ?_)
              refine n_iinc X [(1, _), (3, _), (2, _), (0, _)] dX6_notePriorities_54 (q := 3) (b := 1) rfl (by decide) (by decide) rfl ?_
              refine j_goto (tgt := 2) X dX6_notePriorities_57 (by decide) ?_
              exact j_sub [3, 0] rfl (ih2 _ _ (by omega) (by rw [eT_53]; exact hs.u (by decide)) (by exact hR1.sm (by rw [eT_53]; exact (SM.refl [8] _).u (by decide)) (by decide)) (by intro c hc; rw [eT_53]; by_cases q : c = i; subst q; rw [uI_eq]; rw [e_46]; unfold prI; rw [hw]; rfl; rw [uI_ni q]; exact hpr c (by omega)) (by omega))
        · refine j_astore_nN X [(2, _), (0, _), (1, _)] dX6_notePriorities_16 rfl (by decide) rfl ?_
          refine j_aload_nN X dX6_notePriorities_17 rfl 0 rfl ?_
          refine j_ifnullN (tgt := 32) X dX6_notePriorities_18 (by decide) ?_
          have hw : isWt S i = false := by unfold isWt; simp; omega
          refine j_iconst (v := nI 0) X dX6_notePriorities_32 (by decide) ?_
          refine j_istore_n X [(3, _), (2, _), (0, _), (1, _)] dX6_notePriorities_33 rfl (by decide) rfl ?_
          refine j_aload_n X dX6_notePriorities_34 rfl 2 rfl ?_
          refine j_getf X ly_X6 0 rfl rfl 10 (by decide) f_X6_59 rfl dX6_notePriorities_35 ?_
          refine j_iload_n X dX6_notePriorities_38 rfl 3 rfl ?_
          refine j_iload_n X dX6_notePriorities_39 rfl 0 rfl ?_
          refine n_if_eq (tgt := 52) X dX6_notePriorities_40 (by decide) (by omega) (fun c_40 => ?_) (fun c_40 => ?_)
          · refine j_iconst (v := (-1)) X dX6_notePriorities_52 (by decide) ?_
            refine jc_ast X (by decide) (by decide) (by show _ < 24; omega) dX6_notePriorities_53 (fun T_53 eT_53 => ?_)
            refine n_iinc X [(1, _), (3, _), (2, _), (0, _)] dX6_notePriorities_54 (q := 3) (b := 1) rfl (by decide) (by decide) rfl ?_
            refine j_goto (tgt := 2) X dX6_notePriorities_57 (by decide) ?_
            exact j_sub [3, 0] rfl (ih2 _ _ (by omega) (by rw [eT_53]; exact hs.u (by decide)) (by exact hR1.sm (by rw [eT_53]; exact (SM.refl [8] _).u (by decide)) (by decide)) (by intro c hc; rw [eT_53]; by_cases q : c = i; subst q; rw [uI_eq]; unfold prI; rw [hw]; rfl; rw [uI_ni q]; exact hpr c (by omega)) (by omega))
          · exact absurd c_40 (by omega)
  exact j_sub [1, 0] rfl (L2 25 _ _ (by omega) (by exact SM.refl _ _) (by exact hR) (by intro c hc; omega) (by omega))
set_option maxRecDepth 100000 in
set_option maxHeartbeats 4000000 in
theorem m_X6_countAbove {S : MS} {G : Nat → Nat} {T : CT} {e : CE} (hR : RG S G T e) (hpr : ∀ c, c < 24 → T 8 c = prI S c) (p : Nat) (hp : p < 16777216) : CF zX6_countAbove 16 1 0 0 [.int (nI p)] (T, e) (pNc (T, e) (sm (fun k => ct (isWt S k && decide (p < prN S k))) 24) 24) := by
  intro D Y ad
  refine MT.of [(0, .ref (ad 16)), (1, .int (nI p))] (by decide) rfl (Nat.le_of_ble_eq_true rfl) ?_
  intro K hK X E
  refine j_iconst (v := nI 0) X dX6_countAbove_0 (by decide) ?_
  refine j_istore_n X [(2, _), (0, _), (1, _)] dX6_countAbove_1 rfl (by decide) rfl ?_
  refine j_aload_n X dX6_countAbove_2 rfl 1 rfl ?_
  refine j_getf X ly_X6 0 rfl rfl 10 (by decide) f_X6_59 rfl dX6_countAbove_3 ?_
  refine j_astore_n X [(3, _), (2, _), (0, _), (1, _)] dX6_countAbove_6 rfl (by decide) rfl ?_
  refine j_aload_n X dX6_countAbove_7 rfl 0 rfl ?_
  refine jc_len X (by decide) (by decide) dX6_countAbove_8 ?_
  refine z_as (nI 24) rfl ?_
  refine j_istore X [(4, _), (3, _), (2, _), (0, _), (1, _)] dX6_countAbove_9 (by decide) rfl ?_
  refine j_iconst (v := nI 0) X dX6_countAbove_11 (by decide) ?_
  refine j_istore X [(5, _), (4, _), (3, _), (2, _), (0, _), (1, _)] dX6_countAbove_12 (by decide) rfl ?_
  have L14 : ∀ (n : Nat) (i s : Nat), (i ≤ 24) → (s = sm (fun k => ct (isWt S k && decide (p < prN S k))) i) → (24 + 1 ≤ i + n) → JJ K D 0 0 (WC ad Y (T, e)) [(0, .ref (ad 16)), (1, .int (nI p)), (2, .int (nI s)), (3, .ref (ad 8)), (4, .int (nI 24)), (5, .int (nI i))] 14 [] := by
    intro n
    induction n with
    | zero =>
      intro i s hi hs hf14
      exact absurd hf14 (by omega)
    | succ n14 ih14 =>
      intro i s hi hs hf14
      refine j_iload X dX6_countAbove_14 5 rfl ?_
      refine j_iload X dX6_countAbove_16 4 rfl ?_
      refine n_icmp_ge (tgt := 42) X dX6_countAbove_18 (by decide) (by omega) (by omega) (fun c_18 => ?_) (fun c_18 => ?_)
      · have hi2 : i = 24 := by omega
        subst hi2
        have hle : sm (fun k => ct (isWt S k && decide (p < prN S k))) 24 ≤ 24 * 1 := sm_le (fun i hi => ct_le _)
        refine j_iload_n X dX6_countAbove_42 rfl 2 rfl ?_
        exact j_ireturn X E ((T, e)) rfl ⟨_, rfl, _, hs, by omega, rfl, rfl⟩ dX6_countAbove_43
      · refine j_aload_n X dX6_countAbove_21 rfl 3 rfl ?_
        refine j_iload X dX6_countAbove_22 5 rfl ?_
        refine jc_ald X (by decide) (by decide) (by show _ < 24; omega) dX6_countAbove_24 ?_
        rw [hpr _ (by omega)]
        refine j_istore X [(6, _), (0, _), (1, _), (2, _), (3, _), (4, _), (5, _)] dX6_countAbove_25 (by decide) rfl ?_
        refine j_iload X dX6_countAbove_27 0 rfl ?_
        refine j_iload_n X dX6_countAbove_29 rfl 2 rfl ?_
        refine j_icmp_le (tgt := 36) X dX6_countAbove_30 (by decide) (fun c_30 => ?_) (fun c_30 => ?_)
        · have h30 := (prI_le hR.hI (by omega) hp).mp c_30
          refine n_iinc X [(5, _), (6, _), (0, _), (1, _), (2, _), (3, _), (4, _)] dX6_countAbove_36 (q := 6) (b := 1) rfl (by decide) (by decide) rfl ?_
          refine j_goto (tgt := 14) X dX6_countAbove_39 (by decide) ?_
          exact j_sub [2, 3, 4, 5, 6, 0] rfl (ih14 _ _ (by omega) (by rw [sm_s, hs]; rw [h30]; rfl) (by omega))
        · have h30 : (isWt S i && decide (p < prN S i)) = true := by rw [← Bool.not_eq_false]; exact fun q => c_30 ((prI_le hR.hI (by omega) hp).mpr q)
          refine n_iinc X [(2, _), (6, _), (0, _), (1, _), (3, _), (4, _), (5, _)] dX6_countAbove_33 (q := 3) (b := 1) rfl (by decide) (by decide) rfl ?_
          refine n_iinc X [(5, _), (2, _), (6, _), (0, _), (1, _), (3, _), (4, _)] dX6_countAbove_36 (q := 6) (b := 1) rfl (by decide) (by decide) rfl ?_
          refine j_goto (tgt := 14) X dX6_countAbove_39 (by decide) ?_
          exact j_sub [3, 4, 1, 5, 6, 0] rfl (ih14 _ _ (by omega) (by rw [sm_s, hs]; rw [h30]; rfl) (by omega))
  exact j_sub [4, 5, 3, 2, 1, 0] rfl (L14 25 _ _ (by omega) (by rfl) (by omega))
