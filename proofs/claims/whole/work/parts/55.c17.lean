set_option maxRecDepth 100000 in
set_option maxHeartbeats 4000000 in
theorem m_X6_nextMonth {S : MS} {T : CT} {e : CE} (hR : RR S T e) (hmo : S 21 0 < 1000) : CF zX6_nextMonth 16 2 0 0 [] (T, e) (pR (nI (S 21 0 + 1)) (monthS S)) := by
  intro D Y ad
  refine MT.of [(0, .ref (ad 16))] (by decide) rfl (Nat.le_of_ble_eq_true rfl) ?_
  intro K hK X E
  refine j_aload_n X dX6_nextMonth_0 rfl 0 rfl ?_
  refine j_dup X dX6_nextMonth_1 rfl ?_
  refine j_getf X ly_X6 0 rfl rfl 5 (by decide) f_X6_32 rfl dX6_nextMonth_2 ?_
  refine z_as (nI (S 21 0)) hR.month ?_
  refine n_name (fun v_2 e_2 => ?_)
  have b_2 : v_2 < 16777216 := by rw [e_2]; exact hR.hB _ _
  refine j_iconst (v := nI 1) X dX6_nextMonth_5 (by decide) ?_
  refine n_iadd X dX6_nextMonth_6 ?_
  refine jc_put1 X f_X6_32 dX6_nextMonth_7 (fun T_7 eT_7 => ?_)
  refine j_iconst (v := nI 0) X dX6_nextMonth_10 (by decide) ?_
  refine j_istore_n X [(1, _), (0, _)] dX6_nextMonth_11 rfl (by decide) rfl ?_
  have L12 : ∀ (n : Nat) (i : Nat) (S1 : MS) (e1 : CE), (i ≤ 24) → (RR S1 T_7 e1) → (S1 = itS stepM (uM S 21 0 (S 21 0 + 1)) i) → (24 + 1 ≤ i + n) → JJ K D 0 0 (WC ad Y (T_7, e1)) [(0, .ref (ad 16)), (1, .int (nI i))] 12 [] := by
    intro n
    induction n with
    | zero =>
      intro i S1 e1 hi hR1 hS hf12
      exact absurd hf12 (by omega)
    | succ n12 ih12 =>
      intro i S1 e1 hi hR1 hS hf12
      refine j_iload_n X dX6_nextMonth_12 rfl 1 rfl ?_
      refine j_aload_n X dX6_nextMonth_13 rfl 0 rfl ?_
      refine j_getf X ly_X6 0 rfl rfl 0 (by decide) f_X6_11 rfl dX6_nextMonth_14 ?_
      refine jc_len_r0 X dX6_nextMonth_17 ?_
      refine n_icmp_ge (tgt := 58) X dX6_nextMonth_18 (by decide) (by omega) (by omega) (fun c_18 => ?_) (fun c_18 => ?_)
      · have hi2 : i = 24 := by omega
        subst hi2
        have hmn : S1 21 0 = S 21 0 + 1 := by rw [hS]; exact itS_month 24
        refine j_aload_n X dX6_nextMonth_58 rfl 0 rfl ?_
        refine j_getf X ly_X6 0 rfl rfl 5 (by decide) f_X6_32 rfl dX6_nextMonth_59 ?_
        refine z_as (nI (S1 21 0)) hR1.month ?_
        refine n_name (fun v_59 e_59 => ?_)
        have b_59 : v_59 < 16777216 := by rw [e_59]; exact hR1.hB _ _
        exact j_ireturn X E ((T_7, e1)) rfl ⟨_, rfl, by rw [e_59, hmn], by unfold monthS; rw [← hS]; exact hR1⟩ dX6_nextMonth_62
      · refine j_aload_n X dX6_nextMonth_21 rfl 0 rfl ?_
        refine j_getf X ly_X6 0 rfl rfl 0 (by decide) f_X6_11 rfl dX6_nextMonth_22 ?_
        refine j_iload_n X dX6_nextMonth_25 rfl 1 rfl ?_
        refine jc_ch X hR1 (by omega) dX6_nextMonth_26 (fun a_26 q_26 r_26 m_26 p_26 => ?_) (fun q_26 r_26 => ?_)
        · refine j_astore_n X [(2, _), (0, _), (1, _)] dX6_nextMonth_27 rfl (by decide) rfl ?_
          refine j_aload_n X dX6_nextMonth_28 rfl 0 rfl ?_
          refine j_ifnull X dX6_nextMonth_29 ?_
          refine j_aload_n X dX6_nextMonth_32 rfl 0 rfl ?_
          refine jc_callPV0 X hK (m_X0_growOlder hR1 i (by omega) m_26 p_26) m_X6_105 m_26 p_26 rfl rfl (by decide) (by decide) (Nat.le_of_ble_eq_true rfl) ⟨by decide, by decide⟩ dX6_nextMonth_33 ?_
          rintro _ rfl
          have mg : a_26 ∈ eL (wP e1 a_26 (chE (growS S1 i) i)) := m_26
          have pg : eP (wP e1 a_26 (chE (growS S1 i) i)) a_26 = chE (growS S1 i) i := eP_wP _ _ _
          have hgg : BD (growS S1 i) ∧ True := ⟨by have h8 := hR1.hI.2.2.2.2.2.2.2.1 i (by omega); unfold growS; exact BD_u (BD_u hR1.hB (by omega)) (by split <;> omega), trivial⟩
          refine j_aload_n X dX6_nextMonth_36 rfl 0 rfl ?_
          refine jc_pget X ly_X0 mg pg rfl 1 (by decide) f_X6_75 rfl dX6_nextMonth_37 ?_
          refine n_name (fun v_37 e_37 => ?_)
          have b_37 : v_37 < 16777216 := by rw [e_37]; exact hgg.1 _ _
          have h40 : v_37 = S1 1 i + 1 := by rw [e_37]; unfold growS; rw [uM_nk (by omega), uM_eq]
          refine j_bipush (v := nI 78) X dX6_nextMonth_40 (by decide) ?_
          refine n_icmp_lt (tgt := 52) X dX6_nextMonth_42 (by decide) (by omega) (by omega) (fun c_42 => ?_) (fun c_42 => ?_)
          · refine n_iinc X [(1, _), (2, _), (0, _)] dX6_nextMonth_52 (q := 2) (b := 1) rfl (by decide) (by decide) rfl ?_
            refine j_goto (tgt := 12) X dX6_nextMonth_55 (by decide) ?_
            exact j_sub [2, 0] rfl (ih12 _ (stepM S1 i) _ (by omega) (by exact hR1.keep (by omega) r_26 q_26 (by omega)) (by rw [itS, ← hS]) (by omega))
          · have h78 := (hR1.hI.2.2.2.2.2.2.2.1 i (by omega)).2.2.1 q_26
            refine j_aload_n X dX6_nextMonth_45 rfl 1 rfl ?_
            refine j_getf X ly_X6 0 rfl rfl 0 (by decide) f_X6_11 rfl dX6_nextMonth_46 ?_
            refine j_iload_n X dX6_nextMonth_49 rfl 2 rfl ?_
            refine j_aconst_null X dX6_nextMonth_50 ?_
            refine jc_ast_r0N X (by omega) dX6_nextMonth_51 (fun e_51 ee_51 => ?_)
            refine n_iinc X [(1, _), (2, _), (0, _)] dX6_nextMonth_52 (q := 2) (b := 1) rfl (by decide) (by decide) rfl ?_
            refine j_goto (tgt := 12) X dX6_nextMonth_55 (by decide) ?_
            exact j_sub [2, 0] rfl (ih12 _ (stepM S1 i) _ (by omega) (by rw [ee_51]; exact hR1.drop (by omega) r_26 q_26 (by omega)) (by rw [itS, ← hS]) (by omega))
        · refine j_astore_nN X [(2, _), (0, _), (1, _)] dX6_nextMonth_27 rfl (by decide) rfl ?_
          refine j_aload_nN X dX6_nextMonth_28 rfl 0 rfl ?_
          refine j_ifnullN (tgt := 52) X dX6_nextMonth_29 (by decide) ?_
          refine n_iinc X [(1, _), (2, _), (0, _)] dX6_nextMonth_52 (q := 2) (b := 1) rfl (by decide) (by decide) rfl ?_
          refine j_goto (tgt := 12) X dX6_nextMonth_55 (by decide) ?_
          exact j_sub [2, 0] rfl (ih12 _ (stepM S1 i) _ (by omega) (by rw [stepM_no (by omega)]; exact hR1) (by rw [itS, ← hS]) (by omega))
  exact j_sub [1, 0] rfl (L12 25 0 (uM S 21 0 (S 21 0 + 1)) _ (by omega) (by rw [eT_7, e_2]; exact hR.row (BD_u hR.hB (by omega)) (IV_month hR.hI) (rows_21 hR.2.2.1 (by decide)) (fun a j ha => uM_nk (by omega)) (uM_ni (by omega))) (by rfl) (by omega))
