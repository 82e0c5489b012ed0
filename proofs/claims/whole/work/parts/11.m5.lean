set_option maxRecDepth 100000 in
set_option maxHeartbeats 4000000 in
theorem m_X7_nextMonth (S : MS) (hB : BD S) (hI : IV S) (hm : S 21 0 < 1000) : MM zX7_nextMonth 0 [] S (pS (nI (S 21 0 + 1)) (monthS S)) := by
  intro D Y h0 ad
  refine MT.of [(0, .ref h0)] (by decide) rfl (Nat.le_of_ble_eq_true rfl) ?_
  intro K hR X E
  refine j_aload_n X dX7_nextMonth_0 rfl 0 rfl ?_
  refine j_dup X dX7_nextMonth_1 rfl ?_
  refine jm_get X 0 (by decide) rfl f_X7_127 dX7_nextMonth_2 ?_
  refine n_name (fun v_2 e_2 => ?_)
  have b_2 : v_2 < 16777216 := by rw [e_2]; exact hB _ _
  refine j_iconst (v := nI 1) X dX7_nextMonth_5 (by decide) ?_
  refine n_iadd X dX7_nextMonth_6 ?_
  refine jm_put2 X hB 0 0 (by decide) WM_s0 f_X7_127 rfl (by decide) (by omega) dX7_nextMonth_7 (fun S_7 eS_7 hB_7 => ?_)
  refine j_iconst (v := nI 0) X dX7_nextMonth_10 (by decide) ?_
  refine j_istore_n X [(1, _), (0, _)] dX7_nextMonth_11 rfl (by decide) rfl ?_
  have L12 : ∀ (n : Nat) (i : Nat) (T : MS), (i ≤ 24) → (T = itS stepM (uM S 21 0 (S 21 0 + 1)) i) → (BD T) → (IV T) → (24 + 1 ≤ i + n) → JJ K D 0 0 (WM h0 ad Y T) [(0, .ref h0), (1, .int (nI i))] 12 [] := by
    intro n
    induction n with
    | zero =>
      intro i T hi hT hBT hIT hf12
      exact absurd hf12 (by omega)
    | succ n12 ih12 =>
      intro i T hi hT hBT hIT hf12
      refine j_iload_n X dX7_nextMonth_12 rfl 1 rfl ?_
      refine j_bipush (v := nI 24) X dX7_nextMonth_13 (by decide) ?_
      refine n_icmp_ge (tgt := 90) X dX7_nextMonth_15 (by decide) (by omega) (by omega) (fun c_15 => ?_) (fun c_15 => ?_)
      · have hi24 : i = 24 := by omega
        subst hi24
        refine j_aload_n X dX7_nextMonth_90 rfl 0 rfl ?_
        refine jm_get X 0 (by decide) rfl f_X7_127 dX7_nextMonth_91 ?_
        refine n_name (fun v_91 e_91 => ?_)
        have b_91 : v_91 < 16777216 := by rw [e_91]; exact hBT _ _
        exact j_ireturn X E (T) rfl ⟨_, rfl, by rw [e_91, hT, itS_month], by rw [hT]; rfl, hBT, hIT⟩ dX7_nextMonth_94
      · refine j_aload_n X dX7_nextMonth_18 rfl 0 rfl ?_
        refine jm_get X 1 (by decide) rfl f_X7_7 dX7_nextMonth_19 ?_
        refine j_iload_n X dX7_nextMonth_22 rfl 1 rfl ?_
        refine jm_ald X hBT (by decide) (by show _ < 24; omega) dX7_nextMonth_23 (fun v_23 e_23 b_23 => ?_)
        refine j_iconst (v := nI 1) X dX7_nextMonth_24 (by decide) ?_
        refine n_icmp_ne (tgt := 84) X dX7_nextMonth_25 (by decide) (by omega) (by omega) (fun c_25 => ?_) (fun c_25 => ?_)
        · have hno : stepM T i = T := stepM_no (by omega)
          refine n_iinc X [(1, _), (0, _)] dX7_nextMonth_84 (q := 1) (b := 1) rfl (by decide) (by decide) rfl ?_
          refine j_goto (tgt := 12) X dX7_nextMonth_87 (by decide) ?_
          exact j_sub [1, 0] rfl (ih12 _ _ (by omega) (by rw [itS, ← hT, hno]) (by exact hBT) (by exact hIT) (by omega))
        · have hq := hIT.2.2.2.2.2.2.2.1 i (by omega)
          refine j_aload_n X dX7_nextMonth_28 rfl 0 rfl ?_
          refine jm_get X 2 (by decide) rfl f_X7_13 dX7_nextMonth_29 ?_
          refine j_iload_n X dX7_nextMonth_32 rfl 1 rfl ?_
          refine j_dup2 X dX7_nextMonth_33 rfl rfl ?_
          refine jm_ald X hBT (by decide) (by show _ < 24; omega) dX7_nextMonth_34 (fun v_34 e_34 b_34 => ?_)
          refine j_iconst (v := nI 1) X dX7_nextMonth_35 (by decide) ?_
          refine n_iadd X dX7_nextMonth_36 ?_
          refine jm_ast2 X hBT (by decide) (by show _ < 24; omega) (by omega) dX7_nextMonth_37 (fun S_37 eS_37 hB_37 => ?_)
          refine j_aload_n X dX7_nextMonth_38 rfl 0 rfl ?_
          refine jm_get X 5 (by decide) rfl f_X7_22 dX7_nextMonth_39 ?_
          refine j_iload_n X dX7_nextMonth_42 rfl 1 rfl ?_
          refine j_dup2 X dX7_nextMonth_43 rfl rfl ?_
          refine jm_ald X hB_37 (by decide) (by show _ < 24; omega) dX7_nextMonth_44 (fun v_44 e_44 b_44 => ?_)
          have e44 : v_44 = T 4 i := by rw [e_44, eS_37]; exact uM_nk (by omega)
          refine j_aload_n X dX7_nextMonth_45 rfl 0 rfl ?_
          refine jm_get X 4 (by decide) rfl f_X7_19 dX7_nextMonth_46 ?_
          refine j_iload_n X dX7_nextMonth_49 rfl 1 rfl ?_
          refine jm_ald X hB_37 (by decide) (by show _ < 24; omega) dX7_nextMonth_50 (fun v_50 e_50 b_50 => ?_)
          have e50 : v_50 = T 3 i := by rw [e_50, eS_37]; exact uM_nk (by omega)
          refine j_iconst (v := nI 1) X dX7_nextMonth_51 (by decide) ?_
          refine n_icmp_ne (tgt := 59) X dX7_nextMonth_52 (by decide) (by omega) (by omega) (fun c_52 => ?_) (fun c_52 => ?_)
          · refine j_iconst (v := nI 1) X dX7_nextMonth_59 (by decide) ?_
            refine n_iadd X dX7_nextMonth_60 ?_
            refine jm_ast2 X hB_37 (by decide) (by show _ < 24; omega) (by omega) dX7_nextMonth_61 (fun S_61 eS_61 hB_61 => ?_)
            refine j_aload_n X dX7_nextMonth_62 rfl 0 rfl ?_
            refine jm_get X 1 (by decide) rfl f_X7_7 dX7_nextMonth_63 ?_
            refine j_iload_n X dX7_nextMonth_66 rfl 1 rfl ?_
            refine j_aload_n X dX7_nextMonth_67 rfl 0 rfl ?_
            refine jm_get X 2 (by decide) rfl f_X7_13 dX7_nextMonth_68 ?_
            refine j_iload_n X dX7_nextMonth_71 rfl 1 rfl ?_
            refine jm_ald X hB_61 (by decide) (by show _ < 24; omega) dX7_nextMonth_72 (fun v_72 e_72 b_72 => ?_)
            have e72 : v_72 = v_34 + 1 := by rw [e_72, eS_61, uM_nk (by omega), eS_37, uM_eq]
            refine j_bipush (v := nI 78) X dX7_nextMonth_73 (by decide) ?_
            refine n_icmp_ne (tgt := 82) X dX7_nextMonth_75 (by decide) (by omega) (by omega) (fun c_75 => ?_) (fun c_75 => ?_)
            · have e78 : T 1 i + 1 ≠ 78 := by omega
              refine j_iconst (v := nI 1) X dX7_nextMonth_82 (by decide) ?_
              refine jm_ast2 X hB_61 (by decide) (by show _ < 24; omega) (by omega) dX7_nextMonth_83 (fun S_83 eS_83 hB_83 => ?_)
              refine n_iinc X [(1, _), (0, _)] dX7_nextMonth_84 (q := 1) (b := 1) rfl (by decide) (by decide) rfl ?_
              refine j_goto (tgt := 12) X dX7_nextMonth_87 (by decide) ?_
              exact j_sub [1, 0] rfl (ih12 _ _ (by omega) (by rw [itS, ← hT, eS_83, eS_61, eS_37]; exact stepM_eq (by omega) (by omega) (by split <;> omega) (by split <;> omega)) (by exact hB_83) (by have := IV_step hIT (i := i) (by omega); rw [← stepM_eq (T := T) (i := i) (a := v_34 + 1) (m := S_61 4 i) (r := S_83 0 i) (by omega) (by omega) (by rw [eS_61, uM_eq]; split <;> omega) (by rw [eS_83, uM_eq]; split <;> omega)] at this; rw [eS_83, eS_61, eS_37]; rw [eS_83, uM_eq, eS_61, uM_eq, ] at this; exact this) (by omega))
            · have e78 : T 1 i + 1 = 78 := by omega
              refine j_iconst (v := nI 0) X dX7_nextMonth_78 (by decide) ?_
              refine j_goto (tgt := 83) X dX7_nextMonth_79 (by decide) ?_
              refine jm_ast2 X hB_61 (by decide) (by show _ < 24; omega) (by omega) dX7_nextMonth_83 (fun S_83 eS_83 hB_83 => ?_)
              refine n_iinc X [(1, _), (0, _)] dX7_nextMonth_84 (q := 1) (b := 1) rfl (by decide) (by decide) rfl ?_
              refine j_goto (tgt := 12) X dX7_nextMonth_87 (by decide) ?_
              exact j_sub [1, 0] rfl (ih12 _ _ (by omega) (by rw [itS, ← hT, eS_83, eS_61, eS_37]; exact stepM_eq (by omega) (by omega) (by split <;> omega) (by split <;> omega)) (by exact hB_83) (by have := IV_step hIT (i := i) (by omega); rw [← stepM_eq (T := T) (i := i) (a := v_34 + 1) (m := S_61 4 i) (r := S_83 0 i) (by omega) (by omega) (by rw [eS_61, uM_eq]; split <;> omega) (by rw [eS_83, uM_eq]; split <;> omega)] at this; rw [eS_83, eS_61, eS_37]; rw [eS_83, uM_eq, eS_61, uM_eq, ] at this; exact this) (by omega))
          · refine j_iconst (v := nI 0) X dX7_nextMonth_55 (by decide) ?_
            refine j_goto (tgt := 60) X dX7_nextMonth_56 (by decide) ?_
            refine n_iadd X dX7_nextMonth_60 ?_
            refine jm_ast2 X hB_37 (by decide) (by show _ < 24; omega) (by omega) dX7_nextMonth_61 (fun S_61 eS_61 hB_61 => ?_)
            refine j_aload_n X dX7_nextMonth_62 rfl 0 rfl ?_
            refine jm_get X 1 (by decide) rfl f_X7_7 dX7_nextMonth_63 ?_
            refine j_iload_n X dX7_nextMonth_66 rfl 1 rfl ?_
            refine j_aload_n X dX7_nextMonth_67 rfl 0 rfl ?_
            refine jm_get X 2 (by decide) rfl f_X7_13 dX7_nextMonth_68 ?_
            refine j_iload_n X dX7_nextMonth_71 rfl 1 rfl ?_
            refine jm_ald X hB_61 (by decide) (by show _ < 24; omega) dX7_nextMonth_72 (fun v_72 e_72 b_72 => ?_)
            have e72 : v_72 = v_34 + 1 := by rw [e_72, eS_61, uM_nk (by omega), eS_37, uM_eq]
            refine j_bipush (v := nI 78) X dX7_nextMonth_73 (by decide) ?_
            refine n_icmp_ne (tgt := 82) X dX7_nextMonth_75 (by decide) (by omega) (by omega) (fun c_75 => ?_) (fun c_75 => ?_)
            · have e78 : T 1 i + 1 ≠ 78 := by omega
              refine j_iconst (v := nI 1) X dX7_nextMonth_82 (by decide) ?_
              refine jm_ast2 X hB_61 (by decide) (by show _ < 24; omega) (by omega) dX7_nextMonth_83 (fun S_83 eS_83 hB_83 => ?_)
              refine n_iinc X [(1, _), (0, _)] dX7_nextMonth_84 (q := 1) (b := 1) rfl (by decide) (by decide) rfl ?_
              refine j_goto (tgt := 12) X dX7_nextMonth_87 (by decide) ?_
              exact j_sub [1, 0] rfl (ih12 _ _ (by omega) (by rw [itS, ← hT, eS_83, eS_61, eS_37]; exact stepM_eq (by omega) (by omega) (by split <;> omega) (by split <;> omega)) (by exact hB_83) (by have := IV_step hIT (i := i) (by omega); rw [← stepM_eq (T := T) (i := i) (a := v_34 + 1) (m := S_61 4 i) (r := S_83 0 i) (by omega) (by omega) (by rw [eS_61, uM_eq]; split <;> omega) (by rw [eS_83, uM_eq]; split <;> omega)] at this; rw [eS_83, eS_61, eS_37]; rw [eS_83, uM_eq, eS_61, uM_eq, ] at this; exact this) (by omega))
            · have e78 : T 1 i + 1 = 78 := by omega
              refine j_iconst (v := nI 0) X dX7_nextMonth_78 (by decide) ?_
              refine j_goto (tgt := 83) X dX7_nextMonth_79 (by decide) ?_
              refine jm_ast2 X hB_61 (by decide) (by show _ < 24; omega) (by omega) dX7_nextMonth_83 (fun S_83 eS_83 hB_83 => ?_)
              refine n_iinc X [(1, _), (0, _)] dX7_nextMonth_84 (q := 1) (b := 1) rfl (by decide) (by decide) rfl ?_
              refine j_goto (tgt := 12) X dX7_nextMonth_87 (by decide) ?_
              exact j_sub [1, 0] rfl (ih12 _ _ (by omega) (by rw [itS, ← hT, eS_83, eS_61, eS_37]; exact stepM_eq (by omega) (by omega) (by split <;> omega) (by split <;> omega)) (by exact hB_83) (by have := IV_step hIT (i := i) (by omega); rw [← stepM_eq (T := T) (i := i) (a := v_34 + 1) (m := S_61 4 i) (r := S_83 0 i) (by omega) (by omega) (by rw [eS_61, uM_eq]; split <;> omega) (by rw [eS_83, uM_eq]; split <;> omega)] at this; rw [eS_83, eS_61, eS_37]; rw [eS_83, uM_eq, eS_61, uM_eq, ] at this; exact this) (by omega))
  exact j_sub [1, 0] rfl (L12 25 _ _ (by omega) (by rw [eS_7, e_2]; rfl) (by exact hB_7) (by rw [eS_7]; exact IV_month hI) (by omega))
