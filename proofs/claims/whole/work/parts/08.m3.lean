set_option maxRecDepth 100000 in
set_option maxHeartbeats 4000000 in
theorem m_X7_staffOf (S : MS) (hB : BD S) (d h : Nat) (hd : d < 5) (hh : h < 10) : MM zX7_staffOf 1 [.int (nI d), .int (nI h)] S (pN S (staffN S d h) 8) := by
  intro D Y h0 ad
  refine MT.of [(0, .ref h0), (1, .int (nI d)), (2, .int (nI h))] (by decide) rfl (Nat.le_of_ble_eq_true rfl) ?_
  intro K hR X E
  refine j_iconst (v := nI 0) X dX7_staffOf_0 (by decide) ?_
  refine j_istore_n X [(3, _), (0, _), (1, _), (2, _)] dX7_staffOf_1 rfl (by decide) rfl ?_
  refine j_iconst (v := nI 0) X dX7_staffOf_2 (by decide) ?_
  refine j_istore X [(4, _), (3, _), (0, _), (1, _), (2, _)] dX7_staffOf_3 (by decide) rfl ?_
  have L5 : ∀ (n : Nat) (i s : Nat), (i ≤ 8) → (s = sm (fun e => ct (wrkB S d h e)) i) → (8 + 1 ≤ i + n) → JJ K D 0 0 (WM h0 ad Y S) [(0, .ref h0), (1, .int (nI d)), (2, .int (nI h)), (3, .int (nI s)), (4, .int (nI i))] 5 [] := by
    intro n
    induction n with
    | zero =>
      intro i s hi hs hf5
      exact absurd hf5 (by omega)
    | succ n5 ih5 =>
      intro i s hi hs hf5
      refine j_iload X dX7_staffOf_5 4 rfl ?_
      refine j_bipush (v := nI 8) X dX7_staffOf_7 (by decide) ?_
      refine n_icmp_ge (tgt := 68) X dX7_staffOf_9 (by decide) (by omega) (by omega) (fun c_9 => ?_) (fun c_9 => ?_)
      · have hle : sm (fun e => ct (wrkB S d h e)) 8 ≤ 8 * 1 := sm_le (fun i hi => ct_le _)
        have hi8 : i = 8 := by omega
        subst hi8
        refine j_iload_n X dX7_staffOf_68 rfl 3 rfl ?_
        exact j_ireturn X E (S) rfl ⟨_, rfl, _, hs, by omega, rfl, rfl⟩ dX7_staffOf_69
      · refine j_iload_n X dX7_staffOf_12 rfl 3 rfl ?_
        refine j_aload_n X dX7_staffOf_13 rfl 0 rfl ?_
        refine jm_get X 8 (by decide) rfl f_X7_31 dX7_staffOf_14 ?_
        refine j_iload X dX7_staffOf_17 4 rfl ?_
        refine jm_ald X hB (by decide) (by show _ < 8; omega) dX7_staffOf_19 (fun v_19 e_19 b_19 => ?_)
        refine j_iconst (v := nI 1) X dX7_staffOf_20 (by decide) ?_
        refine n_icmp_ne (tgt := 59) X dX7_staffOf_21 (by decide) (by omega) (by omega) (fun c_21 => ?_) (fun c_21 => ?_)
        · refine j_iconst (v := nI 0) X dX7_staffOf_59 (by decide) ?_
          refine n_iadd X dX7_staffOf_60 ?_
          refine j_istore_n X [(3, _), (0, _), (1, _), (2, _), (4, _)] dX7_staffOf_61 rfl (by decide) rfl ?_
          refine n_iinc X [(4, _), (3, _), (0, _), (1, _), (2, _)] dX7_staffOf_62 (q := 4) (b := 1) rfl (by decide) (by decide) rfl ?_
          refine j_goto (tgt := 5) X dX7_staffOf_65 (by decide) ?_
          exact j_sub [2, 3, 4, 1, 0] rfl (ih5 _ _ (by omega) (by rw [sm_s, hs]; congr 1; subst e_19; simp [wrkB, ct, c_9, c_21]) (by omega))
        · refine j_iload_n X dX7_staffOf_24 rfl 2 rfl ?_
          refine j_aload_n X dX7_staffOf_25 rfl 0 rfl ?_
          refine jm_get X 9 (by decide) rfl f_X7_34 dX7_staffOf_26 ?_
          refine j_iconst (v := nI 5) X dX7_staffOf_29 (by decide) ?_
          refine j_iload X dX7_staffOf_30 4 rfl ?_
          refine n_imul X dX7_staffOf_32 ?_
          refine j_iload_n X dX7_staffOf_33 rfl 1 rfl ?_
          refine n_iadd X dX7_staffOf_34 ?_
          refine jm_ald X hB (by decide) (by show _ < 40; omega) dX7_staffOf_35 (fun v_35 e_35 b_35 => ?_)
          refine j_aload_n X dX7_staffOf_36 rfl 0 rfl ?_
          refine jm_get X 10 (by decide) rfl f_X7_37 dX7_staffOf_37 ?_
          refine j_iconst (v := nI 5) X dX7_staffOf_40 (by decide) ?_
          refine j_iload X dX7_staffOf_41 4 rfl ?_
          refine n_imul X dX7_staffOf_43 ?_
          refine j_iload_n X dX7_staffOf_44 rfl 1 rfl ?_
          refine n_iadd X dX7_staffOf_45 ?_
          refine jm_ald X hB (by decide) (by show _ < 40; omega) dX7_staffOf_46 (fun v_46 e_46 b_46 => ?_)
          refine j_iconst (v := nI 1) X dX7_staffOf_47 (by decide) ?_
          refine j_isub X dX7_staffOf_48 ?_
          refine jst_call3 X hR (m_X7_within _ _ _) m_X7_77 (by decide) (by decide) (Nat.le_of_ble_eq_true rfl) ⟨by decide, by decide⟩ dX7_staffOf_49 ?_
          refine b_if_eq (tgt := 59) X dX7_staffOf_52 (by decide) (fun c_52 => ?_) (fun c_52 => ?_)
          · rw [within_P (by omega) (by omega) (by omega)] at c_52
            subst e_35 e_46
            refine j_iconst (v := nI 0) X dX7_staffOf_59 (by decide) ?_
            refine n_iadd X dX7_staffOf_60 ?_
            refine j_istore_n X [(3, _), (0, _), (1, _), (2, _), (4, _)] dX7_staffOf_61 rfl (by decide) rfl ?_
            refine n_iinc X [(4, _), (3, _), (0, _), (1, _), (2, _)] dX7_staffOf_62 (q := 4) (b := 1) rfl (by decide) (by decide) rfl ?_
            refine j_goto (tgt := 5) X dX7_staffOf_65 (by decide) ?_
            exact j_sub [2, 3, 4, 1, 0] rfl (ih5 _ _ (by omega) (by rw [sm_s, hs]; congr 1; subst e_19; simp [wrkB, ct, c_9, c_21, c_52]) (by omega))
          · rw [within_P (by omega) (by omega) (by omega)] at c_52
            subst e_35 e_46
            refine j_iconst (v := nI 1) X dX7_staffOf_55 (by decide) ?_
            refine j_goto (tgt := 60) X dX7_staffOf_56 (by decide) ?_
            refine n_iadd X dX7_staffOf_60 ?_
            refine j_istore_n X [(3, _), (0, _), (1, _), (2, _), (4, _)] dX7_staffOf_61 rfl (by decide) rfl ?_
            refine n_iinc X [(4, _), (3, _), (0, _), (1, _), (2, _)] dX7_staffOf_62 (q := 4) (b := 1) rfl (by decide) (by decide) rfl ?_
            refine j_goto (tgt := 5) X dX7_staffOf_65 (by decide) ?_
            exact j_sub [2, 3, 4, 1, 0] rfl (ih5 _ _ (by omega) (by rw [sm_s, hs]; congr 1; subst e_19; simp [wrkB, ct, c_9, c_21, c_52]) (by omega))
  exact j_sub [2, 3, 4, 1, 0] rfl (L5 9 _ _ (by omega) (by rfl) (by omega))
set_option maxRecDepth 100000 in
set_option maxHeartbeats 4000000 in
theorem m_X7_isSafe (S : MS) (hB : BD S) (hI : IV S) (d h : Nat) (m : Int32) (hd : d < 5) (hh : h < 10) (hm : isMore m) : MM zX7_isSafe 4 [.int (nI d), .int (nI h), .int m] S (pB S (safeB S d h m)) := by
  intro D Y h0 ad
  refine MT.of [(0, .ref h0), (1, .int (nI d)), (2, .int (nI h)), (3, .int m)] (by decide) rfl (Nat.le_of_ble_eq_true rfl) ?_
  intro K hR X E
  refine j_aload_n X dX7_isSafe_0 rfl 0 rfl ?_
  refine j_iload_n X dX7_isSafe_1 rfl 1 rfl ?_
  refine j_iload_n X dX7_isSafe_2 rfl 2 rfl ?_
  refine j_bipush (v := (-9)) X dX7_isSafe_3 (by decide) ?_
  refine jm_callI3 X hR (m_X7_presentOf S hB _ _ _ (by omega) (by omega)) m_X7_102 rfl (by decide) (by decide) (Nat.le_of_ble_eq_true rfl) ⟨by decide, by decide⟩ dX7_isSafe_5 ?_
  rintro _ _ ⟨v_5, e_5, b_5, rfl, rfl⟩
  refine j_iload_n X dX7_isSafe_8 rfl 3 rfl ?_
  refine j_bipush (v := (-9)) X dX7_isSafe_9 (by decide) ?_
  refine j_icmp_ne (tgt := 18) X dX7_isSafe_11 (by decide) (fun c_11 => ?_) (fun c_11 => ?_)
  · have hmm : moreN m = 1 := by simp [moreN, ct, c_11]
    refine j_iconst (v := nI 1) X dX7_isSafe_18 (by decide) ?_
    refine n_iadd X dX7_isSafe_19 ?_
    refine j_istore X [(4, _), (0, _), (1, _), (2, _), (3, _)] dX7_isSafe_20 (by decide) rfl ?_
    refine j_iload X dX7_isSafe_22 0 rfl ?_
    refine j_aload_n X dX7_isSafe_24 rfl 1 rfl ?_
    refine jm_get X 14 (by decide) rfl f_X7_49 dX7_isSafe_25 ?_
    refine n_name (fun v_25 e_25 => ?_)
    have b_25 : v_25 < 16777216 := by rw [e_25]; exact hB _ _
    refine n_icmp_gt (tgt := 51) X dX7_isSafe_28 (by decide) (by omega) (by omega) (fun c_28 => ?_) (fun c_28 => ?_)
    · refine j_iconst (v := bI false) X dX7_isSafe_51 (by decide) ?_
      exact j_zreturn X E (S) rfl ⟨_, rfl, by congr 1; symm; simp only [safeB, hmm]; simp; omega, rfl⟩ dX7_isSafe_52
    · refine j_aload_n X dX7_isSafe_31 rfl 1 rfl ?_
      refine j_iload_n X dX7_isSafe_32 rfl 2 rfl ?_
      refine j_iload_n X dX7_isSafe_33 rfl 3 rfl ?_
      refine j_iload_n X dX7_isSafe_34 rfl 4 rfl ?_
      refine jm_callI3 X hR (m_X7_needOf S hB hI _ _ _ (by omega) (by omega) (by exact hm)) m_X7_106 rfl (by decide) (by decide) (Nat.le_of_ble_eq_true rfl) ⟨by decide, by decide⟩ dX7_isSafe_35 ?_
      rintro _ _ ⟨v_35, e_35, b_35, rfl, rfl⟩
      refine j_aload_n X dX7_isSafe_38 rfl 1 rfl ?_
      refine j_iload_n X dX7_isSafe_39 rfl 2 rfl ?_
      refine j_iload_n X dX7_isSafe_40 rfl 3 rfl ?_
      refine jm_callI2 X hR (m_X7_staffOf S hB _ _ (by omega) (by omega)) m_X7_109 rfl (by decide) (by decide) (Nat.le_of_ble_eq_true rfl) ⟨by decide, by decide⟩ dX7_isSafe_41 ?_
      rintro _ _ ⟨v_41, e_41, b_41, rfl, rfl⟩
      refine n_icmp_gt (tgt := 51) X dX7_isSafe_44 (by decide) (by omega) (by omega) (fun c_44 => ?_) (fun c_44 => ?_)
      · refine j_iconst (v := bI false) X dX7_isSafe_51 (by decide) ?_
        exact j_zreturn X E (S) rfl ⟨_, rfl, by congr 1; symm; simp only [safeB, hmm]; simp; omega, rfl⟩ dX7_isSafe_52
      · refine j_iconst (v := bI true) X dX7_isSafe_47 (by decide) ?_
        refine j_goto (tgt := 52) X dX7_isSafe_48 (by decide) ?_
        exact j_zreturn X E (S) rfl ⟨_, rfl, by congr 1; symm; simp only [safeB, hmm]; simp; omega, rfl⟩ dX7_isSafe_52
  · have hmm : moreN m = 0 := by simp [moreN, ct, c_11]
    refine j_iconst (v := nI 0) X dX7_isSafe_14 (by decide) ?_
    refine j_goto (tgt := 19) X dX7_isSafe_15 (by decide) ?_
    refine n_iadd X dX7_isSafe_19 ?_
    refine j_istore X [(4, _), (0, _), (1, _), (2, _), (3, _)] dX7_isSafe_20 (by decide) rfl ?_
    refine j_iload X dX7_isSafe_22 0 rfl ?_
    refine j_aload_n X dX7_isSafe_24 rfl 1 rfl ?_
    refine jm_get X 14 (by decide) rfl f_X7_49 dX7_isSafe_25 ?_
    refine n_name (fun v_25 e_25 => ?_)
    have b_25 : v_25 < 16777216 := by rw [e_25]; exact hB _ _
    refine n_icmp_gt (tgt := 51) X dX7_isSafe_28 (by decide) (by omega) (by omega) (fun c_28 => ?_) (fun c_28 => ?_)
    · refine j_iconst (v := bI false) X dX7_isSafe_51 (by decide) ?_
      exact j_zreturn X E (S) rfl ⟨_, rfl, by congr 1; symm; simp only [safeB, hmm]; simp; omega, rfl⟩ dX7_isSafe_52
    · refine j_aload_n X dX7_isSafe_31 rfl 1 rfl ?_
      refine j_iload_n X dX7_isSafe_32 rfl 2 rfl ?_
      refine j_iload_n X dX7_isSafe_33 rfl 3 rfl ?_
      refine j_iload_n X dX7_isSafe_34 rfl 4 rfl ?_
      refine jm_callI3 X hR (m_X7_needOf S hB hI _ _ _ (by omega) (by omega) (by exact hm)) m_X7_106 rfl (by decide) (by decide) (Nat.le_of_ble_eq_true rfl) ⟨by decide, by decide⟩ dX7_isSafe_35 ?_
      rintro _ _ ⟨v_35, e_35, b_35, rfl, rfl⟩
      refine j_aload_n X dX7_isSafe_38 rfl 1 rfl ?_
      refine j_iload_n X dX7_isSafe_39 rfl 2 rfl ?_
      refine j_iload_n X dX7_isSafe_40 rfl 3 rfl ?_
      refine jm_callI2 X hR (m_X7_staffOf S hB _ _ (by omega) (by omega)) m_X7_109 rfl (by decide) (by decide) (Nat.le_of_ble_eq_true rfl) ⟨by decide, by decide⟩ dX7_isSafe_41 ?_
      rintro _ _ ⟨v_41, e_41, b_41, rfl, rfl⟩
      refine n_icmp_gt (tgt := 51) X dX7_isSafe_44 (by decide) (by omega) (by omega) (fun c_44 => ?_) (fun c_44 => ?_)
      · refine j_iconst (v := bI false) X dX7_isSafe_51 (by decide) ?_
        exact j_zreturn X E (S) rfl ⟨_, rfl, by congr 1; symm; simp only [safeB, hmm]; simp; omega, rfl⟩ dX7_isSafe_52
      · refine j_iconst (v := bI true) X dX7_isSafe_47 (by decide) ?_
        refine j_goto (tgt := 52) X dX7_isSafe_48 (by decide) ?_
        exact j_zreturn X E (S) rfl ⟨_, rfl, by congr 1; symm; simp only [safeB, hmm]; simp; omega, rfl⟩ dX7_isSafe_52
set_option maxRecDepth 100000 in
set_option maxHeartbeats 4000000 in
theorem m_X7_canHave (S : MS) (hB : BD S) (hI : IV S) (c d b e : Nat) (hc : c < 24) (hd : d < 5) (hbe : b ≤ e) (he : e ≤ 10) : MM zX7_canHave 5 [.int (nI c), .int (nI d), .int (nI b), .int (nI e)] S (pB S (canHaveB S c d b e)) := by
  intro D Y h0 ad
  refine MT.of [(0, .ref h0), (1, .int (nI c)), (2, .int (nI d)), (3, .int (nI b)), (4, .int (nI e))] (by decide) rfl (Nat.le_of_ble_eq_true rfl) ?_
  intro K hR X E
  refine j_iconst (v := bI true) X dX7_canHave_0 (by decide) ?_
  refine j_istore X [(5, _), (0, _), (1, _), (2, _), (3, _), (4, _)] dX7_canHave_1 (by decide) rfl ?_
  refine j_iload_n X dX7_canHave_3 rfl 4 rfl ?_
  refine j_istore X [(6, _), (5, _), (0, _), (1, _), (2, _), (3, _), (4, _)] dX7_canHave_4 (by decide) rfl ?_
  have L6 : ∀ (n : Nat) (k : Nat) (cn : Bool), (k ≤ e - b) → (cn = andN (fun k => hvB S c d (b + k)) k) → (e - b + 1 ≤ k + n) → JJ K D 0 0 (WM h0 ad Y S) [(0, .ref h0), (1, .int (nI c)), (2, .int (nI d)), (3, .int (nI b)), (4, .int (nI e)), (5, .int (bI cn)), (6, .int (nI (b + k)))] 6 [] := by
    intro n
    induction n with
    | zero =>
      intro k cn hk hcn hf6
      exact absurd hf6 (by omega)
    | succ n6 ih6 =>
      intro k cn hk hcn hf6
      refine j_iload X dX7_canHave_6 6 rfl ?_
      refine j_iload X dX7_canHave_8 4 rfl ?_
      refine n_icmp_ge (tgt := 53) X dX7_canHave_10 (by decide) (by omega) (by omega) (fun c_10 => ?_) (fun c_10 => ?_)
      · have hk2 : k = e - b := by omega
        subst hk2
        refine j_iload X dX7_canHave_53 5 rfl ?_
        exact j_zreturn X E (S) rfl ⟨_, rfl, by rw [hcn]; rfl, rfl⟩ dX7_canHave_55
      · refine j_iload X dX7_canHave_13 5 rfl ?_
        refine b_if_eq (tgt := 44) X dX7_canHave_15 (by decide) (fun c_15 => ?_) (fun c_15 => ?_)
        · refine j_iconst (v := bI false) X dX7_canHave_44 (by decide) ?_
          refine j_istore X [(5, _), (0, _), (1, _), (2, _), (3, _), (4, _), (6, _)] dX7_canHave_45 (by decide) rfl ?_
          refine n_iinc X [(6, _), (5, _), (0, _), (1, _), (2, _), (3, _), (4, _)] dX7_canHave_47 (q := 6) (b := 1) rfl (by decide) (by decide) rfl ?_
          refine j_goto (tgt := 6) X dX7_canHave_50 (by decide) ?_
          exact j_sub [2, 3, 4, 5, 6, 1, 0] rfl (ih6 (k + 1) _ (by omega) (by rw [andN, ← hcn]; simp [hvB, c_10, c_15]) (by omega))
        · refine j_aload_n X dX7_canHave_18 rfl 0 rfl ?_
          refine j_iload_n X dX7_canHave_19 rfl 1 rfl ?_
          refine j_iload_n X dX7_canHave_20 rfl 2 rfl ?_
          refine j_iload X dX7_canHave_21 6 rfl ?_
          refine jm_callI3 X hR (m_X7_isBooked S hB _ _ _ (by omega) (by omega) (by omega)) m_X7_96 rfl (by decide) (by decide) (Nat.le_of_ble_eq_true rfl) ⟨by decide, by decide⟩ dX7_canHave_23 ?_
          rintro _ _ ⟨rfl, rfl⟩
          refine b_if_ne (tgt := 40) X dX7_canHave_26 (by decide) (fun c_26 => ?_) (fun c_26 => ?_)
          · refine j_iconst (v := bI true) X dX7_canHave_40 (by decide) ?_
            refine j_goto (tgt := 45) X dX7_canHave_41 (by decide) ?_
            refine j_istore X [(5, _), (0, _), (1, _), (2, _), (3, _), (4, _), (6, _)] dX7_canHave_45 (by decide) rfl ?_
            refine n_iinc X [(6, _), (5, _), (0, _), (1, _), (2, _), (3, _), (4, _)] dX7_canHave_47 (q := 6) (b := 1) rfl (by decide) (by decide) rfl ?_
            refine j_goto (tgt := 6) X dX7_canHave_50 (by decide) ?_
            exact j_sub [2, 3, 4, 5, 6, 1, 0] rfl (ih6 (k + 1) _ (by omega) (by rw [andN, ← hcn]; simp [hvB, c_10, c_15, c_26]) (by omega))
          · refine j_aload_n X dX7_canHave_29 rfl 0 rfl ?_
            refine j_iload_n X dX7_canHave_30 rfl 2 rfl ?_
            refine j_iload X dX7_canHave_31 6 rfl ?_
            refine j_iload_n X dX7_canHave_33 rfl 1 rfl ?_
            refine jm_callI3 X hR (m_X7_isSafe S hB hI _ _ _ (by omega) (by omega) (isMore_c hc)) m_X7_113 rfl (by decide) (by decide) (Nat.le_of_ble_eq_true rfl) ⟨by decide, by decide⟩ dX7_canHave_34 ?_
            rintro _ _ ⟨rfl, rfl⟩
            refine b_if_eq (tgt := 44) X dX7_canHave_37 (by decide) (fun c_37 => ?_) (fun c_37 => ?_)
            · refine j_iconst (v := bI false) X dX7_canHave_44 (by decide) ?_
              refine j_istore X [(5, _), (0, _), (1, _), (2, _), (3, _), (4, _), (6, _)] dX7_canHave_45 (by decide) rfl ?_
              refine n_iinc X [(6, _), (5, _), (0, _), (1, _), (2, _), (3, _), (4, _)] dX7_canHave_47 (q := 6) (b := 1) rfl (by decide) (by decide) rfl ?_
              refine j_goto (tgt := 6) X dX7_canHave_50 (by decide) ?_
              exact j_sub [2, 3, 4, 5, 6, 1, 0] rfl (ih6 (k + 1) _ (by omega) (by rw [andN, ← hcn]; simp [hvB, c_10, c_15, c_26, c_37]) (by omega))
            · refine j_iconst (v := bI true) X dX7_canHave_40 (by decide) ?_
              refine j_goto (tgt := 45) X dX7_canHave_41 (by decide) ?_
              refine j_istore X [(5, _), (0, _), (1, _), (2, _), (3, _), (4, _), (6, _)] dX7_canHave_45 (by decide) rfl ?_
              refine n_iinc X [(6, _), (5, _), (0, _), (1, _), (2, _), (3, _), (4, _)] dX7_canHave_47 (q := 6) (b := 1) rfl (by decide) (by decide) rfl ?_
              refine j_goto (tgt := 6) X dX7_canHave_50 (by decide) ?_
              exact j_sub [2, 3, 4, 5, 6, 1, 0] rfl (ih6 (k + 1) _ (by omega) (by rw [andN, ← hcn]; simp [hvB, c_10, c_15, c_26, c_37]) (by omega))
  exact j_sub [2, 3, 4, 5, 6, 1, 0] rfl (L6 (e - b + 1) 0 _ (by omega) (by rfl) (by omega))
set_option maxRecDepth 100000 in
set_option maxHeartbeats 4000000 in
theorem m_X7_age (S : MS) (hB : BD S) (x : Int32) : MM zX7_age 2 [.int x] S (pZ S (ageI S x)) := by
  intro D Y h0 ad
  refine MT.of [(0, .ref h0), (1, .int x)] (by decide) rfl (Nat.le_of_ble_eq_true rfl) ?_
  intro K hR X E
  refine j_aload_n X dX7_age_0 rfl 0 rfl ?_
  refine j_iload_n X dX7_age_1 rfl 1 rfl ?_
  refine jm_callI1 X hR (m_X7_hasChild S hB _) m_X7_85 rfl (by decide) (by decide) (Nat.le_of_ble_eq_true rfl) ⟨by decide, by decide⟩ dX7_age_2 ?_
  rintro _ _ ⟨rfl, rfl⟩
  refine b_if_eq (tgt := 17) X dX7_age_5 (by decide) (fun c_5 => ?_) (fun c_5 => ?_)
  · refine j_iconst (v := (-1)) X dX7_age_17 (by decide) ?_
    exact j_ireturn X E (S) rfl ⟨_, rfl, by simp [ageI, c_5, *], rfl⟩ dX7_age_18
  · obtain ⟨c, hc, rfl, h0c⟩ := hasC_of c_5
    have hcl := nI_clamp (n := c) (by omega)
    refine j_aload_n X dX7_age_8 rfl 0 rfl ?_
    refine jm_get X 2 (by decide) rfl f_X7_13 dX7_age_9 ?_
    refine j_iload_n X dX7_age_12 rfl 1 rfl ?_
    refine jm_ald X hB (by decide) (by show _ < 24; omega) dX7_age_13 (fun v_13 e_13 b_13 => ?_)
    refine j_goto (tgt := 18) X dX7_age_14 (by decide) ?_
    exact j_ireturn X E (S) rfl ⟨_, rfl, by simp [ageI, c_5, *], rfl⟩ dX7_age_18
set_option maxRecDepth 100000 in
set_option maxHeartbeats 4000000 in
theorem m_X7_isAdmitted (S : MS) (hB : BD S) (x : Int32) : MM zX7_isAdmitted 2 [.int x] S (pZ S (isAdI S x)) := by
  intro D Y h0 ad
  refine MT.of [(0, .ref h0), (1, .int x)] (by decide) rfl (Nat.le_of_ble_eq_true rfl) ?_
  intro K hR X E
  refine j_aload_n X dX7_isAdmitted_0 rfl 0 rfl ?_
  refine j_iload_n X dX7_isAdmitted_1 rfl 1 rfl ?_
  refine jm_callI1 X hR (m_X7_hasChild S hB _) m_X7_85 rfl (by decide) (by decide) (Nat.le_of_ble_eq_true rfl) ⟨by decide, by decide⟩ dX7_isAdmitted_2 ?_
  rintro _ _ ⟨rfl, rfl⟩
  refine b_if_eq (tgt := 17) X dX7_isAdmitted_5 (by decide) (fun c_5 => ?_) (fun c_5 => ?_)
  · refine j_iconst (v := (-1)) X dX7_isAdmitted_17 (by decide) ?_
    exact j_ireturn X E (S) rfl ⟨_, rfl, by simp [isAdI, c_5, *], rfl⟩ dX7_isAdmitted_18
  · obtain ⟨c, hc, rfl, h0c⟩ := hasC_of c_5
    have hcl := nI_clamp (n := c) (by omega)
    refine j_aload_n X dX7_isAdmitted_8 rfl 0 rfl ?_
    refine jm_get X 4 (by decide) rfl f_X7_19 dX7_isAdmitted_9 ?_
    refine j_iload_n X dX7_isAdmitted_12 rfl 1 rfl ?_
    refine jm_ald X hB (by decide) (by show _ < 24; omega) dX7_isAdmitted_13 (fun v_13 e_13 b_13 => ?_)
    refine j_goto (tgt := 18) X dX7_isAdmitted_14 (by decide) ?_
    exact j_ireturn X E (S) rfl ⟨_, rfl, by simp [isAdI, c_5, *], rfl⟩ dX7_isAdmitted_18
set_option maxRecDepth 100000 in
set_option maxHeartbeats 4000000 in
theorem m_X7_hours (S : MS) (hB : BD S) (hI : IV S) (x : Int32) : MM zX7_hours 2 [.int x] S (pZ S (hoursI S x)) := by
  intro D Y h0 ad
  refine MT.of [(0, .ref h0), (1, .int x)] (by decide) rfl (Nat.le_of_ble_eq_true rfl) ?_
  intro K hR X E
  refine j_aload_n X dX7_hours_0 rfl 0 rfl ?_
  refine j_iload_n X dX7_hours_1 rfl 1 rfl ?_
  refine jm_callI1 X hR (m_X7_hasChild S hB _) m_X7_85 rfl (by decide) (by decide) (Nat.le_of_ble_eq_true rfl) ⟨by decide, by decide⟩ dX7_hours_2 ?_
  rintro _ _ ⟨rfl, rfl⟩
  refine b_if_eq (tgt := 16) X dX7_hours_5 (by decide) (fun c_5 => ?_) (fun c_5 => ?_)
  · refine j_iconst (v := (-1)) X dX7_hours_16 (by decide) ?_
    exact j_ireturn X E (S) rfl ⟨_, rfl, by simp [hoursI, c_5, *], rfl⟩ dX7_hours_17
  · obtain ⟨c, hc, rfl, h0c⟩ := hasC_of c_5
    have hcl := nI_clamp (n := c) (by omega)
    refine j_aload_n X dX7_hours_8 rfl 0 rfl ?_
    refine j_iload_n X dX7_hours_9 rfl 1 rfl ?_
    refine jm_callI1 X hR (m_X7_hoursOf S hB hI _ (by omega)) m_X7_89 rfl (by decide) (by decide) (Nat.le_of_ble_eq_true rfl) ⟨by decide, by decide⟩ dX7_hours_10 ?_
    rintro _ _ ⟨v_10, e_10, b_10, rfl, rfl⟩
    refine j_goto (tgt := 17) X dX7_hours_13 (by decide) ?_
    exact j_ireturn X E (S) rfl ⟨_, rfl, by simp [hoursI, c_5, *], rfl⟩ dX7_hours_17
set_option maxRecDepth 100000 in
set_option maxHeartbeats 4000000 in
theorem m_X7_waited (S : MS) (hB : BD S) (x : Int32) : MM zX7_waited 2 [.int x] S (pZ S (waitedI S x)) := by
  intro D Y h0 ad
  refine MT.of [(0, .ref h0), (1, .int x)] (by decide) rfl (Nat.le_of_ble_eq_true rfl) ?_
  intro K hR X E
  refine j_aload_n X dX7_waited_0 rfl 0 rfl ?_
  refine j_iload_n X dX7_waited_1 rfl 1 rfl ?_
  refine jm_callI1 X hR (m_X7_hasChild S hB _) m_X7_85 rfl (by decide) (by decide) (Nat.le_of_ble_eq_true rfl) ⟨by decide, by decide⟩ dX7_waited_2 ?_
  rintro _ _ ⟨rfl, rfl⟩
  refine b_if_ne (tgt := 12) X dX7_waited_5 (by decide) (fun c_5 => ?_) (fun c_5 => ?_)
  · obtain ⟨c, hc, rfl, h0c⟩ := hasC_of c_5
    have hcl := nI_clamp (n := c) (by omega)
    refine j_aload_n X dX7_waited_12 rfl 0 rfl ?_
    refine jm_get X 4 (by decide) rfl f_X7_19 dX7_waited_13 ?_
    refine j_iload_n X dX7_waited_16 rfl 1 rfl ?_
    refine jm_ald X hB (by decide) (by show _ < 24; omega) dX7_waited_17 (fun v_17 e_17 b_17 => ?_)
    refine j_iconst (v := nI 1) X dX7_waited_18 (by decide) ?_
    refine n_icmp_ne (tgt := 27) X dX7_waited_19 (by decide) (by omega) (by omega) (fun c_19 => ?_) (fun c_19 => ?_)
    · refine j_aload_n X dX7_waited_27 rfl 0 rfl ?_
      refine jm_get X 5 (by decide) rfl f_X7_22 dX7_waited_28 ?_
      refine j_iload_n X dX7_waited_31 rfl 1 rfl ?_
      refine jm_ald X hB (by decide) (by show _ < 24; omega) dX7_waited_32 (fun v_32 e_32 b_32 => ?_)
      exact j_ireturn X E (S) rfl ⟨_, rfl, by (try subst e_17); simp [waitedI, c_5, c_19, *], rfl⟩ dX7_waited_33
    · refine j_bipush (v := (-2)) X dX7_waited_22 (by decide) ?_
      refine j_goto (tgt := 33) X dX7_waited_24 (by decide) ?_
      exact j_ireturn X E (S) rfl ⟨_, rfl, by (try subst e_17); simp [waitedI, c_5, c_19, *], rfl⟩ dX7_waited_33
  · refine j_iconst (v := (-1)) X dX7_waited_8 (by decide) ?_
    refine j_goto (tgt := 33) X dX7_waited_9 (by decide) ?_
    exact j_ireturn X E (S) rfl ⟨_, rfl, by (try subst e_17); simp [waitedI, c_5, *], rfl⟩ dX7_waited_33
set_option maxRecDepth 100000 in
set_option maxHeartbeats 4000000 in
theorem m_X7_children (S : MS) (hB : BD S) (hI : IV S) : MM zX7_children 1 [] S (pN S (childN S) 24) := by
  intro D Y h0 ad
  refine MT.of [(0, .ref h0)] (by decide) rfl (Nat.le_of_ble_eq_true rfl) ?_
  intro K hR X E
  refine j_aload_n X dX7_children_0 rfl 0 rfl ?_
  refine jm_callI0 X hR (m_X7_childMany S hB hI) m_X7_81 rfl (by decide) (by decide) (Nat.le_of_ble_eq_true rfl) ⟨by decide, by decide⟩ dX7_children_1 ?_
  rintro _ _ ⟨v_1, e_1, b_1, rfl, rfl⟩
  exact j_ireturn X E (S) rfl ⟨_, rfl, _, e_1, b_1, rfl, rfl⟩ dX7_children_4
