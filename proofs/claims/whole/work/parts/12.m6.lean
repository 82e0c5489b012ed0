set_option maxRecDepth 100000 in
set_option maxHeartbeats 4000000 in
theorem m_X7_isWaiting (S : MS) (hB : BD S) (c : Nat) (hc : c < 24) : MM zX7_isWaiting 0 [.int (nI c)] S (pB S (isWt S c)) := by
  intro D Y h0 ad
  refine MT.of [(0, .ref h0), (1, .int (nI c))] (by decide) rfl (Nat.le_of_ble_eq_true rfl) ?_
  intro K hR X E
  refine j_aload_n X dX7_isWaiting_0 rfl 0 rfl ?_
  refine jm_get X 1 (by decide) rfl f_X7_7 dX7_isWaiting_1 ?_
  refine j_iload_n X dX7_isWaiting_4 rfl 1 rfl ?_
  refine jm_ald X hB (by decide) (by show _ < 24; omega) dX7_isWaiting_5 (fun v_5 e_5 b_5 => ?_)
  refine j_iconst (v := nI 1) X dX7_isWaiting_6 (by decide) ?_
  refine n_icmp_ne (tgt := 23) X dX7_isWaiting_7 (by decide) (by omega) (by omega) (fun c_7 => ?_) (fun c_7 => ?_)
  · refine j_iconst (v := bI false) X dX7_isWaiting_23 (by decide) ?_
    exact j_zreturn X E (S) rfl ⟨_, rfl, by congr 1; symm; simp only [isWt]; simp; omega, rfl⟩ dX7_isWaiting_24
  · refine j_aload_n X dX7_isWaiting_10 rfl 0 rfl ?_
    refine jm_get X 4 (by decide) rfl f_X7_19 dX7_isWaiting_11 ?_
    refine j_iload_n X dX7_isWaiting_14 rfl 1 rfl ?_
    refine jm_ald X hB (by decide) (by show _ < 24; omega) dX7_isWaiting_15 (fun v_15 e_15 b_15 => ?_)
    refine n_if_ne (tgt := 23) X dX7_isWaiting_16 (by decide) (by omega) (fun c_16 => ?_) (fun c_16 => ?_)
    · refine j_iconst (v := bI false) X dX7_isWaiting_23 (by decide) ?_
      exact j_zreturn X E (S) rfl ⟨_, rfl, by congr 1; symm; simp only [isWt]; simp; omega, rfl⟩ dX7_isWaiting_24
    · refine j_iconst (v := bI true) X dX7_isWaiting_19 (by decide) ?_
      refine j_goto (tgt := 24) X dX7_isWaiting_20 (by decide) ?_
      exact j_zreturn X E (S) rfl ⟨_, rfl, by congr 1; symm; simp only [isWt]; simp; omega, rfl⟩ dX7_isWaiting_24
set_option maxRecDepth 100000 in
set_option maxHeartbeats 4000000 in
theorem m_X7_pointsOf (S : MS) (hB : BD S) (hI : IV S) (c : Nat) (hc : c < 24) : MM zX7_pointsOf 1 [.int (nI c)] S (pN S (ptsN S c) 860) := by
  intro D Y h0 ad
  refine MT.of [(0, .ref h0), (1, .int (nI c))] (by decide) rfl (Nat.le_of_ble_eq_true rfl) ?_
  intro K hR X E
  refine j_iconst (v := bI false) X dX7_pointsOf_0 (by decide) ?_
  refine j_istore_n X [(2, _), (0, _), (1, _)] dX7_pointsOf_1 rfl (by decide) rfl ?_
  refine j_iconst (v := nI 0) X dX7_pointsOf_2 (by decide) ?_
  refine j_istore_n X [(3, _), (2, _), (0, _), (1, _)] dX7_pointsOf_3 rfl (by decide) rfl ?_
  have L4 : ∀ (n : Nat) (i : Nat) (sb : Bool), (i ≤ 24) → (sb = orN (sibB S c) i) → (24 + 1 ≤ i + n) → JJ K D 0 0 (WM h0 ad Y S) [(0, .ref h0), (1, .int (nI c)), (2, .int (bI sb)), (3, .int (nI i))] 4 [] := by
    intro n
    induction n with
    | zero =>
      intro i sb hi hsb hf4
      exact absurd hf4 (by omega)
    | succ n4 ih4 =>
      intro i sb hi hsb hf4
      refine j_iload_n X dX7_pointsOf_4 rfl 3 rfl ?_
      refine j_bipush (v := nI 24) X dX7_pointsOf_5 (by decide) ?_
      refine n_icmp_ge (tgt := 54) X dX7_pointsOf_7 (by decide) (by omega) (by omega) (fun c_7 => ?_) (fun c_7 => ?_)
      · have hi24 : i = 24 := by omega
        subst hi24
        have hq := hI.2.2.2.2.2.2.2.1 c hc
        refine j_bipush (v := nI 10) X dX7_pointsOf_54 (by decide) ?_
        refine j_aload_n X dX7_pointsOf_56 rfl 0 rfl ?_
        refine jm_get X 5 (by decide) rfl f_X7_22 dX7_pointsOf_57 ?_
        refine j_iload_n X dX7_pointsOf_60 rfl 1 rfl ?_
        refine jm_ald X hB (by decide) (by show _ < 24; omega) dX7_pointsOf_61 (fun v_61 e_61 b_61 => ?_)
        refine n_imul X dX7_pointsOf_62 ?_
        refine j_iload_n X dX7_pointsOf_63 rfl 2 rfl ?_
        refine b_if_eq (tgt := 72) X dX7_pointsOf_64 (by decide) (fun c_64 => ?_) (fun c_64 => ?_)
        · refine j_iconst (v := nI 0) X dX7_pointsOf_72 (by decide) ?_
          refine n_iadd X dX7_pointsOf_73 ?_
          refine j_aload_n X dX7_pointsOf_74 rfl 0 rfl ?_
          refine j_iload_n X dX7_pointsOf_75 rfl 1 rfl ?_
          refine jm_callI1 X hR (m_X7_hoursOf S hB hI _ (by omega)) m_X7_89 rfl (by decide) (by decide) (Nat.le_of_ble_eq_true rfl) ⟨by decide, by decide⟩ dX7_pointsOf_76 ?_
          rintro _ _ ⟨v_76, e_76, b_76, rfl, rfl⟩
          refine n_iadd X dX7_pointsOf_79 ?_
          exact j_ireturn X E (S) rfl ⟨_, rfl, _, by unfold ptsN; rw [← hsb, c_64, ← e_61, ← e_76]; rfl, by omega, rfl, rfl⟩ dX7_pointsOf_80
        · refine j_bipush (v := nI 25) X dX7_pointsOf_67 (by decide) ?_
          refine j_goto (tgt := 73) X dX7_pointsOf_69 (by decide) ?_
          refine n_iadd X dX7_pointsOf_73 ?_
          refine j_aload_n X dX7_pointsOf_74 rfl 0 rfl ?_
          refine j_iload_n X dX7_pointsOf_75 rfl 1 rfl ?_
          refine jm_callI1 X hR (m_X7_hoursOf S hB hI _ (by omega)) m_X7_89 rfl (by decide) (by decide) (Nat.le_of_ble_eq_true rfl) ⟨by decide, by decide⟩ dX7_pointsOf_76 ?_
          rintro _ _ ⟨v_76, e_76, b_76, rfl, rfl⟩
          refine n_iadd X dX7_pointsOf_79 ?_
          exact j_ireturn X E (S) rfl ⟨_, rfl, _, by unfold ptsN; rw [← hsb, c_64, ← e_61, ← e_76]; rfl, by omega, rfl, rfl⟩ dX7_pointsOf_80
      · refine j_iload_n X dX7_pointsOf_10 rfl 2 rfl ?_
        refine b_if_ne (tgt := 42) X dX7_pointsOf_11 (by decide) (fun c_11 => ?_) (fun c_11 => ?_)
        · refine j_iconst (v := bI true) X dX7_pointsOf_42 (by decide) ?_
          refine j_goto (tgt := 47) X dX7_pointsOf_43 (by decide) ?_
          refine j_istore_n X [(2, _), (0, _), (1, _), (3, _)] dX7_pointsOf_47 rfl (by decide) rfl ?_
          refine n_iinc X [(3, _), (2, _), (0, _), (1, _)] dX7_pointsOf_48 (q := 3) (b := 1) rfl (by decide) (by decide) rfl ?_
          refine j_goto (tgt := 4) X dX7_pointsOf_51 (by decide) ?_
          exact j_sub [2, 3, 1, 0] rfl (ih4 _ _ (by omega) (by rw [orN, ← hsb]; simp [sibB, c_7, c_11]) (by omega))
        · refine j_iload_n X dX7_pointsOf_14 rfl 3 rfl ?_
          refine j_iload_n X dX7_pointsOf_15 rfl 1 rfl ?_
          refine n_icmp_eq (tgt := 46) X dX7_pointsOf_16 (by decide) (by omega) (by omega) (fun c_16 => ?_) (fun c_16 => ?_)
          · refine j_iconst (v := bI false) X dX7_pointsOf_46 (by decide) ?_
            refine j_istore_n X [(2, _), (0, _), (1, _), (3, _)] dX7_pointsOf_47 rfl (by decide) rfl ?_
            refine n_iinc X [(3, _), (2, _), (0, _), (1, _)] dX7_pointsOf_48 (q := 3) (b := 1) rfl (by decide) (by decide) rfl ?_
            refine j_goto (tgt := 4) X dX7_pointsOf_51 (by decide) ?_
            exact j_sub [2, 3, 1, 0] rfl (ih4 _ _ (by omega) (by rw [orN, ← hsb]; simp [sibB, c_7, c_11, c_16]) (by omega))
          · refine j_aload_n X dX7_pointsOf_19 rfl 0 rfl ?_
            refine j_iload_n X dX7_pointsOf_20 rfl 3 rfl ?_
            refine jm_callI1 X hR (m_X7_isIn S hB _ (by omega)) m_X7_93 rfl (by decide) (by decide) (Nat.le_of_ble_eq_true rfl) ⟨by decide, by decide⟩ dX7_pointsOf_21 ?_
            rintro _ _ ⟨rfl, rfl⟩
            refine b_if_eq (tgt := 46) X dX7_pointsOf_24 (by decide) (fun c_24 => ?_) (fun c_24 => ?_)
            · refine j_iconst (v := bI false) X dX7_pointsOf_46 (by decide) ?_
              refine j_istore_n X [(2, _), (0, _), (1, _), (3, _)] dX7_pointsOf_47 rfl (by decide) rfl ?_
              refine n_iinc X [(3, _), (2, _), (0, _), (1, _)] dX7_pointsOf_48 (q := 3) (b := 1) rfl (by decide) (by decide) rfl ?_
              refine j_goto (tgt := 4) X dX7_pointsOf_51 (by decide) ?_
              exact j_sub [2, 3, 1, 0] rfl (ih4 _ _ (by omega) (by rw [orN, ← hsb]; simp [sibB, c_7, c_11, c_16, c_24]) (by omega))
            · refine j_aload_n X dX7_pointsOf_27 rfl 0 rfl ?_
              refine jm_get X 3 (by decide) rfl f_X7_16 dX7_pointsOf_28 ?_
              refine j_iload_n X dX7_pointsOf_31 rfl 3 rfl ?_
              refine jm_ald X hB (by decide) (by show _ < 24; omega) dX7_pointsOf_32 (fun v_32 e_32 b_32 => ?_)
              refine j_aload_n X dX7_pointsOf_33 rfl 0 rfl ?_
              refine jm_get X 3 (by decide) rfl f_X7_16 dX7_pointsOf_34 ?_
              refine j_iload_n X dX7_pointsOf_37 rfl 1 rfl ?_
              refine jm_ald X hB (by decide) (by show _ < 24; omega) dX7_pointsOf_38 (fun v_38 e_38 b_38 => ?_)
              subst e_32 e_38
              refine n_icmp_ne (tgt := 46) X dX7_pointsOf_39 (by decide) (by omega) (by omega) (fun c_39 => ?_) (fun c_39 => ?_)
              · refine j_iconst (v := bI false) X dX7_pointsOf_46 (by decide) ?_
                refine j_istore_n X [(2, _), (0, _), (1, _), (3, _)] dX7_pointsOf_47 rfl (by decide) rfl ?_
                refine n_iinc X [(3, _), (2, _), (0, _), (1, _)] dX7_pointsOf_48 (q := 3) (b := 1) rfl (by decide) (by decide) rfl ?_
                refine j_goto (tgt := 4) X dX7_pointsOf_51 (by decide) ?_
                exact j_sub [2, 3, 1, 0] rfl (ih4 _ _ (by omega) (by rw [orN, ← hsb]; simp [sibB, c_7, c_11, c_16, c_24, c_39]) (by omega))
              · refine j_iconst (v := bI true) X dX7_pointsOf_42 (by decide) ?_
                refine j_goto (tgt := 47) X dX7_pointsOf_43 (by decide) ?_
                refine j_istore_n X [(2, _), (0, _), (1, _), (3, _)] dX7_pointsOf_47 rfl (by decide) rfl ?_
                refine n_iinc X [(3, _), (2, _), (0, _), (1, _)] dX7_pointsOf_48 (q := 3) (b := 1) rfl (by decide) (by decide) rfl ?_
                refine j_goto (tgt := 4) X dX7_pointsOf_51 (by decide) ?_
                exact j_sub [2, 3, 1, 0] rfl (ih4 _ _ (by omega) (by rw [orN, ← hsb]; simp [sibB, c_7, c_11, c_16, c_24, c_39]) (by omega))
  exact j_sub [2, 3, 1, 0] rfl (L4 25 _ _ (by omega) (by rfl) (by omega))
set_option maxRecDepth 100000 in
set_option maxHeartbeats 4000000 in
theorem m_X7_points (S : MS) (hB : BD S) (hI : IV S) (x : Int32) : MM zX7_points 2 [.int x] S (pZ S (pointsI S x)) := by
  intro D Y h0 ad
  refine MT.of [(0, .ref h0), (1, .int x)] (by decide) rfl (Nat.le_of_ble_eq_true rfl) ?_
  intro K hR X E
  refine j_aload_n X dX7_points_0 rfl 0 rfl ?_
  refine j_iload_n X dX7_points_1 rfl 1 rfl ?_
  refine jm_callI1 X hR (m_X7_hasChild S hB _) m_X7_85 rfl (by decide) (by decide) (Nat.le_of_ble_eq_true rfl) ⟨by decide, by decide⟩ dX7_points_2 ?_
  rintro _ _ ⟨rfl, rfl⟩
  refine b_if_ne (tgt := 12) X dX7_points_5 (by decide) (fun c_5 => ?_) (fun c_5 => ?_)
  · obtain ⟨c, hc, rfl, h0c⟩ := hasC_of c_5
    have hcl := nI_clamp (n := c) (by omega)
    refine j_aload_n X dX7_points_12 rfl 0 rfl ?_
    refine jm_get X 4 (by decide) rfl f_X7_19 dX7_points_13 ?_
    refine j_iload_n X dX7_points_16 rfl 1 rfl ?_
    refine jm_ald X hB (by decide) (by show _ < 24; omega) dX7_points_17 (fun v_17 e_17 b_17 => ?_)
    refine j_iconst (v := nI 1) X dX7_points_18 (by decide) ?_
    refine n_icmp_ne (tgt := 27) X dX7_points_19 (by decide) (by omega) (by omega) (fun c_19 => ?_) (fun c_19 => ?_)
    · refine j_aload_n X dX7_points_27 rfl 0 rfl ?_
      refine j_iload_n X dX7_points_28 rfl 1 rfl ?_
      refine jm_callI1 X hR (m_X7_pointsOf S hB hI _ (by omega)) m_X7_130 rfl (by decide) (by decide) (Nat.le_of_ble_eq_true rfl) ⟨by decide, by decide⟩ dX7_points_29 ?_
      rintro _ _ ⟨v_29, e_29, b_29, rfl, rfl⟩
      exact j_ireturn X E (S) rfl ⟨_, rfl, by (try subst e_17); simp [pointsI, c_5, c_19, *], rfl⟩ dX7_points_32
    · refine j_bipush (v := (-2)) X dX7_points_22 (by decide) ?_
      refine j_goto (tgt := 32) X dX7_points_24 (by decide) ?_
      exact j_ireturn X E (S) rfl ⟨_, rfl, by (try subst e_17); simp [pointsI, c_5, c_19, *], rfl⟩ dX7_points_32
  · refine j_iconst (v := (-1)) X dX7_points_8 (by decide) ?_
    refine j_goto (tgt := 32) X dX7_points_9 (by decide) ?_
    exact j_ireturn X E (S) rfl ⟨_, rfl, by (try subst e_17); simp [pointsI, c_5, *], rfl⟩ dX7_points_32
set_option maxRecDepth 100000 in
set_option maxHeartbeats 4000000 in
theorem m_X7_isBefore (S : MS) (hB : BD S) (hI : IV S) (a b : Nat) (ha : a < 24) (hb : b < 24) : MM zX7_isBefore 2 [.int (nI a), .int (nI b)] S (pB S (befB S a b)) := by
  intro D Y h0 ad
  refine MT.of [(0, .ref h0), (1, .int (nI a)), (2, .int (nI b))] (by decide) rfl (Nat.le_of_ble_eq_true rfl) ?_
  intro K hR X E
  refine j_aload_n X dX7_isBefore_0 rfl 0 rfl ?_
  refine j_iload_n X dX7_isBefore_1 rfl 1 rfl ?_
  refine jm_callI1 X hR (m_X7_pointsOf S hB hI _ (by omega)) m_X7_130 rfl (by decide) (by decide) (Nat.le_of_ble_eq_true rfl) ⟨by decide, by decide⟩ dX7_isBefore_2 ?_
  rintro _ _ ⟨v_2, e_2, b_2, rfl, rfl⟩
  refine j_istore_n X [(3, _), (0, _), (1, _), (2, _)] dX7_isBefore_5 rfl (by decide) rfl ?_
  refine j_aload_n X dX7_isBefore_6 rfl 1 rfl ?_
  refine j_iload_n X dX7_isBefore_7 rfl 3 rfl ?_
  refine jm_callI1 X hR (m_X7_pointsOf S hB hI _ (by omega)) m_X7_130 rfl (by decide) (by decide) (Nat.le_of_ble_eq_true rfl) ⟨by decide, by decide⟩ dX7_isBefore_8 ?_
  rintro _ _ ⟨v_8, e_8, b_8, rfl, rfl⟩
  refine j_istore X [(4, _), (3, _), (0, _), (1, _), (2, _)] dX7_isBefore_11 (by decide) rfl ?_
  refine j_iload_n X dX7_isBefore_13 rfl 1 rfl ?_
  refine j_iload X dX7_isBefore_14 0 rfl ?_
  refine n_icmp_eq (tgt := 31) X dX7_isBefore_16 (by decide) (by omega) (by omega) (fun c_16 => ?_) (fun c_16 => ?_)
  · refine j_aload_n X dX7_isBefore_31 rfl 2 rfl ?_
    refine jm_get X 2 (by decide) rfl f_X7_13 dX7_isBefore_32 ?_
    refine j_iload_n X dX7_isBefore_35 rfl 3 rfl ?_
    refine jm_ald X hB (by decide) (by show _ < 24; omega) dX7_isBefore_36 (fun v_36 e_36 b_36 => ?_)
    refine j_aload_n X dX7_isBefore_37 rfl 2 rfl ?_
    refine jm_get X 2 (by decide) rfl f_X7_13 dX7_isBefore_38 ?_
    refine j_iload_n X dX7_isBefore_41 rfl 4 rfl ?_
    refine jm_ald X hB (by decide) (by show _ < 24; omega) dX7_isBefore_42 (fun v_42 e_42 b_42 => ?_)
    refine n_icmp_eq (tgt := 69) X dX7_isBefore_43 (by decide) (by omega) (by omega) (fun c_43 => ?_) (fun c_43 => ?_)
    · refine j_iload_n X dX7_isBefore_69 rfl 3 rfl ?_
      refine j_iload_n X dX7_isBefore_70 rfl 4 rfl ?_
      refine n_icmp_ge (tgt := 78) X dX7_isBefore_71 (by decide) (by omega) (by omega) (fun c_71 => ?_) (fun c_71 => ?_)
      · refine j_iconst (v := bI false) X dX7_isBefore_78 (by decide) ?_
        exact j_zreturn X E (S) rfl ⟨_, rfl, by congr 1; symm; unfold befB; (repeat' split) <;> (try simp) <;> omega, rfl⟩ dX7_isBefore_79
      · refine j_iconst (v := bI true) X dX7_isBefore_74 (by decide) ?_
        refine j_goto (tgt := 79) X dX7_isBefore_75 (by decide) ?_
        exact j_zreturn X E (S) rfl ⟨_, rfl, by congr 1; symm; unfold befB; (repeat' split) <;> (try simp) <;> omega, rfl⟩ dX7_isBefore_79
    · refine j_aload_n X dX7_isBefore_46 rfl 2 rfl ?_
      refine jm_get X 2 (by decide) rfl f_X7_13 dX7_isBefore_47 ?_
      refine j_iload_n X dX7_isBefore_50 rfl 3 rfl ?_
      refine jm_ald X hB (by decide) (by show _ < 24; omega) dX7_isBefore_51 (fun v_51 e_51 b_51 => ?_)
      refine j_aload_n X dX7_isBefore_52 rfl 2 rfl ?_
      refine jm_get X 2 (by decide) rfl f_X7_13 dX7_isBefore_53 ?_
      refine j_iload_n X dX7_isBefore_56 rfl 4 rfl ?_
      refine jm_ald X hB (by decide) (by show _ < 24; omega) dX7_isBefore_57 (fun v_57 e_57 b_57 => ?_)
      refine n_icmp_le (tgt := 65) X dX7_isBefore_58 (by decide) (by omega) (by omega) (fun c_58 => ?_) (fun c_58 => ?_)
      · refine j_iconst (v := bI false) X dX7_isBefore_65 (by decide) ?_
        refine j_goto (tgt := 79) X dX7_isBefore_66 (by decide) ?_
        exact j_zreturn X E (S) rfl ⟨_, rfl, by congr 1; symm; unfold befB; (repeat' split) <;> (try simp) <;> omega, rfl⟩ dX7_isBefore_79
      · refine j_iconst (v := bI true) X dX7_isBefore_61 (by decide) ?_
        refine j_goto (tgt := 79) X dX7_isBefore_62 (by decide) ?_
        exact j_zreturn X E (S) rfl ⟨_, rfl, by congr 1; symm; unfold befB; (repeat' split) <;> (try simp) <;> omega, rfl⟩ dX7_isBefore_79
  · refine j_iload_n X dX7_isBefore_19 rfl 1 rfl ?_
    refine j_iload X dX7_isBefore_20 0 rfl ?_
    refine n_icmp_le (tgt := 29) X dX7_isBefore_22 (by decide) (by omega) (by omega) (fun c_22 => ?_) (fun c_22 => ?_)
    · refine j_iconst (v := bI false) X dX7_isBefore_29 (by decide) ?_
      exact j_zreturn X E (S) rfl ⟨_, rfl, by congr 1; symm; unfold befB; (repeat' split) <;> (try simp) <;> omega, rfl⟩ dX7_isBefore_30
    · refine j_iconst (v := bI true) X dX7_isBefore_25 (by decide) ?_
      refine j_goto (tgt := 30) X dX7_isBefore_26 (by decide) ?_
      exact j_zreturn X E (S) rfl ⟨_, rfl, by congr 1; symm; unfold befB; (repeat' split) <;> (try simp) <;> omega, rfl⟩ dX7_isBefore_30
set_option maxRecDepth 100000 in
set_option maxHeartbeats 4000000 in
theorem m_X7_placeOf (S : MS) (hB : BD S) (hI : IV S) (c : Nat) (hc : c < 24) : MM zX7_placeOf 3 [.int (nI c)] S (pN S (placeN S c) 24) := by
  intro D Y h0 ad
  refine MT.of [(0, .ref h0), (1, .int (nI c))] (by decide) rfl (Nat.le_of_ble_eq_true rfl) ?_
  intro K hR X E
  refine j_iconst (v := nI 0) X dX7_placeOf_0 (by decide) ?_
  refine j_istore_n X [(2, _), (0, _), (1, _)] dX7_placeOf_1 rfl (by decide) rfl ?_
  refine j_iconst (v := nI 0) X dX7_placeOf_2 (by decide) ?_
  refine j_istore_n X [(3, _), (2, _), (0, _), (1, _)] dX7_placeOf_3 rfl (by decide) rfl ?_
  have L4 : ∀ (n : Nat) (i s : Nat), (i ≤ 24) → (s = sm (fun k => ct (plcB S c k)) i) → (24 + 1 ≤ i + n) → JJ K D 0 0 (WM h0 ad Y S) [(0, .ref h0), (1, .int (nI c)), (2, .int (nI s)), (3, .int (nI i))] 4 [] := by
    intro n
    induction n with
    | zero =>
      intro i s hi hs hf4
      exact absurd hf4 (by omega)
    | succ n4 ih4 =>
      intro i s hi hs hf4
      refine j_iload_n X dX7_placeOf_4 rfl 3 rfl ?_
      refine j_bipush (v := nI 24) X dX7_placeOf_5 (by decide) ?_
      refine n_icmp_ge (tgt := 46) X dX7_placeOf_7 (by decide) (by omega) (by omega) (fun c_7 => ?_) (fun c_7 => ?_)
      · have hle : sm (fun k => ct (plcB S c k)) 24 ≤ 24 * 1 := sm_le (fun i hi => ct_le _)
        have hi24 : i = 24 := by omega
        subst hi24
        refine j_iload_n X dX7_placeOf_46 rfl 2 rfl ?_
        exact j_ireturn X E (S) rfl ⟨_, rfl, _, hs, by omega, rfl, rfl⟩ dX7_placeOf_47
      · refine j_iload_n X dX7_placeOf_10 rfl 2 rfl ?_
        refine j_iload_n X dX7_placeOf_11 rfl 3 rfl ?_
        refine j_iload_n X dX7_placeOf_12 rfl 1 rfl ?_
        refine n_icmp_eq (tgt := 37) X dX7_placeOf_13 (by decide) (by omega) (by omega) (fun c_13 => ?_) (fun c_13 => ?_)
        · refine j_iconst (v := nI 0) X dX7_placeOf_37 (by decide) ?_
          refine n_iadd X dX7_placeOf_38 ?_
          refine j_istore_n X [(2, _), (0, _), (1, _), (3, _)] dX7_placeOf_39 rfl (by decide) rfl ?_
          refine n_iinc X [(3, _), (2, _), (0, _), (1, _)] dX7_placeOf_40 (q := 3) (b := 1) rfl (by decide) (by decide) rfl ?_
          refine j_goto (tgt := 4) X dX7_placeOf_43 (by decide) ?_
          exact j_sub [2, 3, 1, 0] rfl (ih4 _ _ (by omega) (by rw [sm_s, hs]; congr 1; simp [plcB, ct, c_7, c_13]) (by omega))
        · refine j_aload_n X dX7_placeOf_16 rfl 0 rfl ?_
          refine j_iload_n X dX7_placeOf_17 rfl 3 rfl ?_
          refine jm_callI1 X hR (m_X7_isWaiting S hB _ (by omega)) m_X7_133 rfl (by decide) (by decide) (Nat.le_of_ble_eq_true rfl) ⟨by decide, by decide⟩ dX7_placeOf_18 ?_
          rintro _ _ ⟨rfl, rfl⟩
          refine b_if_eq (tgt := 37) X dX7_placeOf_21 (by decide) (fun c_21 => ?_) (fun c_21 => ?_)
          · refine j_iconst (v := nI 0) X dX7_placeOf_37 (by decide) ?_
            refine n_iadd X dX7_placeOf_38 ?_
            refine j_istore_n X [(2, _), (0, _), (1, _), (3, _)] dX7_placeOf_39 rfl (by decide) rfl ?_
            refine n_iinc X [(3, _), (2, _), (0, _), (1, _)] dX7_placeOf_40 (q := 3) (b := 1) rfl (by decide) (by decide) rfl ?_
            refine j_goto (tgt := 4) X dX7_placeOf_43 (by decide) ?_
            exact j_sub [2, 3, 1, 0] rfl (ih4 _ _ (by omega) (by rw [sm_s, hs]; congr 1; simp [plcB, ct, c_7, c_13, c_21]) (by omega))
          · refine j_aload_n X dX7_placeOf_24 rfl 0 rfl ?_
            refine j_iload_n X dX7_placeOf_25 rfl 3 rfl ?_
            refine j_iload_n X dX7_placeOf_26 rfl 1 rfl ?_
            refine jm_callI2 X hR (m_X7_isBefore S hB hI _ _ (by omega) (by omega)) m_X7_136 rfl (by decide) (by decide) (Nat.le_of_ble_eq_true rfl) ⟨by decide, by decide⟩ dX7_placeOf_27 ?_
            rintro _ _ ⟨rfl, rfl⟩
            refine b_if_eq (tgt := 37) X dX7_placeOf_30 (by decide) (fun c_30 => ?_) (fun c_30 => ?_)
            · refine j_iconst (v := nI 0) X dX7_placeOf_37 (by decide) ?_
              refine n_iadd X dX7_placeOf_38 ?_
              refine j_istore_n X [(2, _), (0, _), (1, _), (3, _)] dX7_placeOf_39 rfl (by decide) rfl ?_
              refine n_iinc X [(3, _), (2, _), (0, _), (1, _)] dX7_placeOf_40 (q := 3) (b := 1) rfl (by decide) (by decide) rfl ?_
              refine j_goto (tgt := 4) X dX7_placeOf_43 (by decide) ?_
              exact j_sub [2, 3, 1, 0] rfl (ih4 _ _ (by omega) (by rw [sm_s, hs]; congr 1; simp [plcB, ct, c_7, c_13, c_21, c_30]) (by omega))
            · refine j_iconst (v := nI 1) X dX7_placeOf_33 (by decide) ?_
              refine j_goto (tgt := 38) X dX7_placeOf_34 (by decide) ?_
              refine n_iadd X dX7_placeOf_38 ?_
              refine j_istore_n X [(2, _), (0, _), (1, _), (3, _)] dX7_placeOf_39 rfl (by decide) rfl ?_
              refine n_iinc X [(3, _), (2, _), (0, _), (1, _)] dX7_placeOf_40 (q := 3) (b := 1) rfl (by decide) (by decide) rfl ?_
              refine j_goto (tgt := 4) X dX7_placeOf_43 (by decide) ?_
              exact j_sub [2, 3, 1, 0] rfl (ih4 _ _ (by omega) (by rw [sm_s, hs]; congr 1; simp [plcB, ct, c_7, c_13, c_21, c_30]) (by omega))
  exact j_sub [2, 3, 1, 0] rfl (L4 25 _ _ (by omega) (by rfl) (by omega))
set_option maxRecDepth 100000 in
set_option maxHeartbeats 4000000 in
theorem m_X7_waiting (S : MS) (hB : BD S) (hI : IV S) (x : Int32) : MM zX7_waiting 4 [.int x] S (pZ S (wtgI S x)) := by
  intro D Y h0 ad
  refine MT.of [(0, .ref h0), (1, .int x)] (by decide) rfl (Nat.le_of_ble_eq_true rfl) ?_
  intro K hR X E
  refine j_iload_n X dX7_waiting_0 rfl 1 rfl ?_
  refine j_if_ge (tgt := 6) X dX7_waiting_1 (by decide) (fun c_1 => ?_) (fun c_1 => ?_)
  · refine j_bipush (v := (-9)) X dX7_waiting_6 (by decide) ?_
    refine j_istore_n X [(2, _), (0, _), (1, _)] dX7_waiting_8 rfl (by decide) rfl ?_
    refine j_iconst (v := nI 0) X dX7_waiting_9 (by decide) ?_
    refine j_istore_n X [(3, _), (2, _), (0, _), (1, _)] dX7_waiting_10 rfl (by decide) rfl ?_
    have L11 : ∀ (n : Nat) (i : Nat) (fd : Int32), (i ≤ 24) → (fd = fdI (fun c => isWt S c && decide (nI (placeN S c) = x)) i) → (24 + 1 ≤ i + n) → JJ K D 0 0 (WM h0 ad Y S) [(0, .ref h0), (1, .int x), (2, .int fd), (3, .int (nI i))] 11 [] := by
      intro n
      induction n with
      | zero =>
        intro i fd hi hfd hf11
        exact absurd hf11 (by omega)
      | succ n11 ih11 =>
        intro i fd hi hfd hf11
        refine j_iload_n X dX7_waiting_11 rfl 3 rfl ?_
        refine j_bipush (v := nI 24) X dX7_waiting_12 (by decide) ?_
        refine n_icmp_ge (tgt := 46) X dX7_waiting_14 (by decide) (by omega) (by omega) (fun c_14 => ?_) (fun c_14 => ?_)
        · have hi24 : i = 24 := by omega
          subst hi24
          refine j_iload_n X dX7_waiting_46 rfl 2 rfl ?_
          exact j_ireturn X E (S) rfl ⟨_, rfl, by rw [wtg_pos c_1, hfd], rfl⟩ dX7_waiting_47
        · refine j_aload_n X dX7_waiting_17 rfl 0 rfl ?_
          refine j_iload_n X dX7_waiting_18 rfl 3 rfl ?_
          refine jm_callI1 X hR (m_X7_isWaiting S hB _ (by omega)) m_X7_133 rfl (by decide) (by decide) (Nat.le_of_ble_eq_true rfl) ⟨by decide, by decide⟩ dX7_waiting_19 ?_
          rintro _ _ ⟨rfl, rfl⟩
          refine b_if_eq (tgt := 38) X dX7_waiting_22 (by decide) (fun c_22 => ?_) (fun c_22 => ?_)
          · refine j_iload_n X dX7_waiting_38 rfl 2 rfl ?_
            refine j_istore_n X [(2, _), (0, _), (1, _), (3, _)] dX7_waiting_39 rfl (by decide) rfl ?_
            refine n_iinc X [(3, _), (2, _), (0, _), (1, _)] dX7_waiting_40 (q := 3) (b := 1) rfl (by decide) (by decide) rfl ?_
            refine j_goto (tgt := 11) X dX7_waiting_43 (by decide) ?_
            exact j_sub [2, 3, 1, 0] rfl (ih11 _ _ (by omega) (by rw [fdI_succ, ← hfd]; simp [c_14, c_22]) (by omega))
          · refine j_aload_n X dX7_waiting_25 rfl 0 rfl ?_
            refine j_iload_n X dX7_waiting_26 rfl 3 rfl ?_
            refine jm_callI1 X hR (m_X7_placeOf S hB hI _ (by omega)) m_X7_139 rfl (by decide) (by decide) (Nat.le_of_ble_eq_true rfl) ⟨by decide, by decide⟩ dX7_waiting_27 ?_
            rintro _ _ ⟨v_27, e_27, b_27, rfl, rfl⟩
            subst e_27
            refine j_iload_n X dX7_waiting_30 rfl 1 rfl ?_
            refine j_icmp_ne (tgt := 38) X dX7_waiting_31 (by decide) (fun c_31 => ?_) (fun c_31 => ?_)
            · refine j_iload_n X dX7_waiting_38 rfl 2 rfl ?_
              refine j_istore_n X [(2, _), (0, _), (1, _), (3, _)] dX7_waiting_39 rfl (by decide) rfl ?_
              refine n_iinc X [(3, _), (2, _), (0, _), (1, _)] dX7_waiting_40 (q := 3) (b := 1) rfl (by decide) (by decide) rfl ?_
              refine j_goto (tgt := 11) X dX7_waiting_43 (by decide) ?_
              exact j_sub [2, 3, 1, 0] rfl (ih11 _ _ (by omega) (by rw [fdI_succ, ← hfd]; simp [c_14, c_22, c_31]) (by omega))
            · refine j_iload_n X dX7_waiting_34 rfl 3 rfl ?_
              refine j_goto (tgt := 39) X dX7_waiting_35 (by decide) ?_
              refine j_istore_n X [(2, _), (0, _), (1, _), (3, _)] dX7_waiting_39 rfl (by decide) rfl ?_
              refine n_iinc X [(3, _), (2, _), (0, _), (1, _)] dX7_waiting_40 (q := 3) (b := 1) rfl (by decide) (by decide) rfl ?_
              refine j_goto (tgt := 11) X dX7_waiting_43 (by decide) ?_
              exact j_sub [2, 3, 1, 0] rfl (ih11 _ _ (by omega) (by rw [fdI_succ, ← hfd]; simp [c_14, c_22, c_31]) (by omega))
    exact j_sub [2, 3, 1, 0] rfl (L11 25 _ _ (by omega) (by rfl) (by omega))
  · refine j_iconst (v := (-1)) X dX7_waiting_4 (by decide) ?_
    exact j_ireturn X E (S) rfl ⟨_, rfl, wtg_neg c_1, rfl⟩ dX7_waiting_5
set_option maxRecDepth 100000 in
set_option maxHeartbeats 4000000 in
theorem m_X7_canBeAdmitted (S : MS) (hB : BD S) (hI : IV S) (c : Nat) (hc : c < 24) : MM zX7_canBeAdmitted 5 [.int (nI c)] S (pB S (admB S c)) := by
  intro D Y h0 ad
  refine MT.of [(0, .ref h0), (1, .int (nI c))] (by decide) rfl (Nat.le_of_ble_eq_true rfl) ?_
  intro K hR X E
  refine j_aload_n X dX7_canBeAdmitted_0 rfl 0 rfl ?_
  refine j_iload_n X dX7_canBeAdmitted_1 rfl 1 rfl ?_
  refine jm_callI1 X hR (m_X7_hoursOf S hB hI _ (by omega)) m_X7_89 rfl (by decide) (by decide) (Nat.le_of_ble_eq_true rfl) ⟨by decide, by decide⟩ dX7_canBeAdmitted_2 ?_
  rintro _ _ ⟨v_2, e_2, b_2, rfl, rfl⟩
  have L13 : ∀ (b0 : Bool), (b0 = decide (0 < hoursN S c)) → JJ K D 0 0 (WM h0 ad Y S) [(0, .ref h0), (1, .int (nI c))] 13 [.int (bI b0)] := by
    intro b0 hb0
    refine j_istore_n X [(2, _), (0, _), (1, _)] dX7_canBeAdmitted_13 rfl (by decide) rfl ?_
    refine j_iconst (v := nI 0) X dX7_canBeAdmitted_14 (by decide) ?_
    refine j_istore_n X [(3, _), (2, _), (0, _), (1, _)] dX7_canBeAdmitted_15 rfl (by decide) rfl ?_
    have L16 : ∀ (n : Nat) (d : Nat) (cn : Bool), (d ≤ 5) → (cn = (b0 && andN (fun d => andN (fun h => fitB S c d h) 10) d)) → (5 + 1 ≤ d + n) → JJ K D 0 0 (WM h0 ad Y S) [(0, .ref h0), (1, .int (nI c)), (2, .int (bI cn)), (3, .int (nI d))] 16 [] := by
      intro n
      induction n with
      | zero =>
        intro d cn hd hcn hf16
        exact absurd hf16 (by omega)
      | succ n16 ih16 =>
        intro d cn hd hcn hf16
        refine j_iload_n X dX7_canBeAdmitted_16 rfl 3 rfl ?_
        refine j_iconst (v := nI 5) X dX7_canBeAdmitted_17 (by decide) ?_
        refine n_icmp_ge (tgt := 75) X dX7_canBeAdmitted_18 (by decide) (by omega) (by omega) (fun c_18 => ?_) (fun c_18 => ?_)
        · have hd5 : d = 5 := by omega
          subst hd5
          refine j_iload_n X dX7_canBeAdmitted_75 rfl 2 rfl ?_
          exact j_zreturn X E (S) rfl ⟨_, rfl, by rw [hcn, hb0]; rfl, rfl⟩ dX7_canBeAdmitted_76
        · refine j_iconst (v := nI 0) X dX7_canBeAdmitted_21 (by decide) ?_
          refine j_istore X [(4, _), (0, _), (1, _), (2, _), (3, _)] dX7_canBeAdmitted_22 (by decide) rfl ?_
          have L24 : ∀ (n : Nat) (h : Nat) (cm : Bool), (h ≤ 10) → (cm = ((b0 && andN (fun d => andN (fun h => fitB S c d h) 10) d) && andN (fun h => fitB S c d h) h)) → (10 + 1 ≤ h + n) → JJ K D 0 0 (WM h0 ad Y S) [(0, .ref h0), (1, .int (nI c)), (2, .int (bI cm)), (3, .int (nI d)), (4, .int (nI h))] 24 [] := by
            intro n
            induction n with
            | zero =>
              intro h cm hh hcm hf24
              exact absurd hf24 (by omega)
            | succ n24 ih24 =>
              intro h cm hh hcm hf24
              refine j_iload X dX7_canBeAdmitted_24 4 rfl ?_
              refine j_bipush (v := nI 10) X dX7_canBeAdmitted_26 (by decide) ?_
              refine n_icmp_ge (tgt := 69) X dX7_canBeAdmitted_28 (by decide) (by omega) (by omega) (fun c_28 => ?_) (fun c_28 => ?_)
              · have hh10 : h = 10 := by omega
                subst hh10
                refine n_iinc X [(3, _), (0, _), (1, _), (2, _), (4, _)] dX7_canBeAdmitted_69 (q := 3) (b := 1) rfl (by decide) (by decide) rfl ?_
                refine j_goto (tgt := 16) X dX7_canBeAdmitted_72 (by decide) ?_
                exact j_sub [1, 2, 3, 0] rfl (ih16 _ _ (by omega) (by rw [hcm, Bool.and_assoc]; rfl) (by omega))
              · refine j_iload_n X dX7_canBeAdmitted_31 rfl 2 rfl ?_
                refine b_if_eq (tgt := 69) X dX7_canBeAdmitted_32 (by decide) (fun c_32 => ?_) (fun c_32 => ?_)
                · subst c_32
                  have hst := adm_stop (n := 10) (by omega) hcm
                  refine n_iinc X [(3, _), (0, _), (1, _), (2, _), (4, _)] dX7_canBeAdmitted_69 (q := 3) (b := 1) rfl (by decide) (by decide) rfl ?_
                  refine j_goto (tgt := 16) X dX7_canBeAdmitted_72 (by decide) ?_
                  exact j_sub [1, 2, 3, 0] rfl (ih16 _ _ (by omega) (by rw [hst, Bool.and_assoc]; rfl) (by omega))
                · refine j_aload_n X dX7_canBeAdmitted_35 rfl 0 rfl ?_
                  refine j_iload_n X dX7_canBeAdmitted_36 rfl 1 rfl ?_
                  refine j_iload_n X dX7_canBeAdmitted_37 rfl 3 rfl ?_
                  refine j_iload X dX7_canBeAdmitted_38 4 rfl ?_
                  refine jm_callI3 X hR (m_X7_isBooked S hB _ _ _ (by omega) (by omega) (by omega)) m_X7_96 rfl (by decide) (by decide) (Nat.le_of_ble_eq_true rfl) ⟨by decide, by decide⟩ dX7_canBeAdmitted_40 ?_
                  rintro _ _ ⟨rfl, rfl⟩
                  refine b_if_eq (tgt := 57) X dX7_canBeAdmitted_43 (by decide) (fun c_43 => ?_) (fun c_43 => ?_)
                  · refine j_iconst (v := bI true) X dX7_canBeAdmitted_57 (by decide) ?_
                    refine j_goto (tgt := 62) X dX7_canBeAdmitted_58 (by decide) ?_
                    refine j_istore_n X [(2, _), (0, _), (1, _), (3, _), (4, _)] dX7_canBeAdmitted_62 rfl (by decide) rfl ?_
                    refine n_iinc X [(4, _), (2, _), (0, _), (1, _), (3, _)] dX7_canBeAdmitted_63 (q := 4) (b := 1) rfl (by decide) (by decide) rfl ?_
                    refine j_goto (tgt := 24) X dX7_canBeAdmitted_66 (by decide) ?_
                    exact j_sub [2, 3, 1, 4, 0] rfl (ih24 _ _ (by omega) (by rw [andN, ← Bool.and_assoc, ← hcm]; simp [fitB, c_28, c_32, c_43]) (by omega))
                  · refine j_aload_n X dX7_canBeAdmitted_46 rfl 0 rfl ?_
                    refine j_iload_n X dX7_canBeAdmitted_47 rfl 3 rfl ?_
                    refine j_iload X dX7_canBeAdmitted_48 4 rfl ?_
                    refine j_iload_n X dX7_canBeAdmitted_50 rfl 1 rfl ?_
                    refine jm_callI3 X hR (m_X7_isSafe S hB hI _ _ _ (by omega) (by omega) (isMore_c hc)) m_X7_113 rfl (by decide) (by decide) (Nat.le_of_ble_eq_true rfl) ⟨by decide, by decide⟩ dX7_canBeAdmitted_51 ?_
                    rintro _ _ ⟨rfl, rfl⟩
                    refine b_if_eq (tgt := 61) X dX7_canBeAdmitted_54 (by decide) (fun c_54 => ?_) (fun c_54 => ?_)
                    · refine j_iconst (v := bI false) X dX7_canBeAdmitted_61 (by decide) ?_
                      refine j_istore_n X [(2, _), (0, _), (1, _), (3, _), (4, _)] dX7_canBeAdmitted_62 rfl (by decide) rfl ?_
                      refine n_iinc X [(4, _), (2, _), (0, _), (1, _), (3, _)] dX7_canBeAdmitted_63 (q := 4) (b := 1) rfl (by decide) (by decide) rfl ?_
                      refine j_goto (tgt := 24) X dX7_canBeAdmitted_66 (by decide) ?_
                      exact j_sub [2, 3, 1, 4, 0] rfl (ih24 _ _ (by omega) (by rw [andN, ← Bool.and_assoc, ← hcm]; simp [fitB, c_28, c_32, c_43, c_54]) (by omega))
                    · refine j_iconst (v := bI true) X dX7_canBeAdmitted_57 (by decide) ?_
                      refine j_goto (tgt := 62) X dX7_canBeAdmitted_58 (by decide) ?_
                      refine j_istore_n X [(2, _), (0, _), (1, _), (3, _), (4, _)] dX7_canBeAdmitted_62 rfl (by decide) rfl ?_
                      refine n_iinc X [(4, _), (2, _), (0, _), (1, _), (3, _)] dX7_canBeAdmitted_63 (q := 4) (b := 1) rfl (by decide) (by decide) rfl ?_
                      refine j_goto (tgt := 24) X dX7_canBeAdmitted_66 (by decide) ?_
                      exact j_sub [2, 3, 1, 4, 0] rfl (ih24 _ _ (by omega) (by rw [andN, ← Bool.and_assoc, ← hcm]; simp [fitB, c_28, c_32, c_43, c_54]) (by omega))
          exact j_sub [1, 2, 3, 4, 0] rfl (L24 11 _ _ (by omega) (by simp [andN, hcn]) (by omega))
    exact j_sub [2, 3, 1, 0] rfl (L16 6 _ _ (by omega) (by simp [andN]) (by omega))
  refine n_if_le (tgt := 12) X dX7_canBeAdmitted_5 (by decide) (by omega) (fun c_5 => ?_) (fun c_5 => ?_)
  · refine j_iconst (v := bI false) X dX7_canBeAdmitted_12 (by decide) ?_
    exact j_sub [0, 1] rfl (L13 _ (by symm; simp; omega) )
  · refine j_iconst (v := bI true) X dX7_canBeAdmitted_8 (by decide) ?_
    refine j_goto (tgt := 13) X dX7_canBeAdmitted_9 (by decide) ?_
    exact j_sub [0, 1] rfl (L13 _ (by symm; simp; omega) )
set_option maxRecDepth 100000 in
set_option maxHeartbeats 4000000 in
theorem m_X7_release (S : MS) (hB : BD S) (hI : IV S) (x : Int32) : MM zX7_release 2 [.int x] S (pS (relR S x) (relS S x)) := by
  intro D Y h0 ad
  refine MT.of [(0, .ref h0), (1, .int x)] (by decide) rfl (Nat.le_of_ble_eq_true rfl) ?_
  intro K hR X E
  refine j_aload_n X dX7_release_0 rfl 0 rfl ?_
  refine j_iload_n X dX7_release_1 rfl 1 rfl ?_
  refine jm_callI1 X hR (m_X7_hasChild S hB _) m_X7_85 rfl (by decide) (by decide) (Nat.le_of_ble_eq_true rfl) ⟨by decide, by decide⟩ dX7_release_2 ?_
  rintro _ _ ⟨rfl, rfl⟩
  refine b_if_ne (tgt := 10) X dX7_release_5 (by decide) (fun c_5 => ?_) (fun c_5 => ?_)
  · obtain ⟨c, hc, rfl, h0c⟩ := hasC_of c_5
    have hcl := nI_clamp (n := c) (by omega)
    refine j_aload_n X dX7_release_10 rfl 0 rfl ?_
    refine jm_get X 4 (by decide) rfl f_X7_19 dX7_release_11 ?_
    refine j_iload_n X dX7_release_14 rfl 1 rfl ?_
    refine jm_ald X hB (by decide) (by show _ < 24; omega) dX7_release_15 (fun v_15 e_15 b_15 => ?_)
    subst e_15
    refine n_if_ne (tgt := 22) X dX7_release_16 (by decide) (by omega) (fun c_16 => ?_) (fun c_16 => ?_)
    · refine j_aload_n X dX7_release_22 rfl 0 rfl ?_
      refine jm_get X 4 (by decide) rfl f_X7_19 dX7_release_23 ?_
      refine j_iload_n X dX7_release_26 rfl 1 rfl ?_
      refine j_iconst (v := nI 0) X dX7_release_27 (by decide) ?_
      refine jm_ast2 X hB (by decide) (by show _ < 24; omega) (by omega) dX7_release_28 (fun S_28 eS_28 hB_28 => ?_)
      refine j_aload_n X dX7_release_29 rfl 0 rfl ?_
      refine jm_get X 5 (by decide) rfl f_X7_22 dX7_release_30 ?_
      refine j_iload_n X dX7_release_33 rfl 1 rfl ?_
      refine j_iconst (v := nI 0) X dX7_release_34 (by decide) ?_
      refine jm_ast2 X hB_28 (by decide) (by show _ < 24; omega) (by omega) dX7_release_35 (fun S_35 eS_35 hB_35 => ?_)
      have hI2 : IV S_35 := by rw [eS_35, eS_28]; exact IV_rel hI
      have hh : hoursN S_35 c = hoursN S c := hoursN_congr (fun j => by rw [eS_35, eS_28, uM_nk (by omega), uM_nk (by omega)]) (fun j => by rw [eS_35, eS_28, uM_nk (by omega), uM_nk (by omega)])
      refine j_aload_n X dX7_release_36 rfl 0 rfl ?_
      refine j_iload_n X dX7_release_37 rfl 1 rfl ?_
      refine jm_callI1 X hR (m_X7_hoursOf S_35 hB_35 hI2 _ (by omega)) m_X7_89 rfl (by decide) (by decide) (Nat.le_of_ble_eq_true rfl) ⟨by decide, by decide⟩ dX7_release_38 ?_
      rintro _ _ ⟨v_38, e_38, b_38, rfl, rfl⟩
      exact j_ireturn X E (S_35) rfl ⟨_, rfl, by rw [e_38, hh]; simp [relR, tn, c_5, hcl, c_16], by rw [eS_35, eS_28]; simp [relS, tn, c_5, hcl, c_16], hB_35, hI2⟩ dX7_release_41
    · refine j_bipush (v := (-2)) X dX7_release_19 (by decide) ?_
      exact j_ireturn X E (S) rfl ⟨_, rfl, by simp [relR, tn, c_5, c_16, *], by simp [relS, tn, c_5, c_16, *], hB, hI⟩ dX7_release_21
  · refine j_iconst (v := (-1)) X dX7_release_8 (by decide) ?_
    exact j_ireturn X E (S) rfl ⟨_, rfl, by simp [relR, tn, c_5, *], by simp [relS, tn, c_5, *], hB, hI⟩ dX7_release_9
set_option maxRecDepth 100000 in
set_option maxHeartbeats 4000000 in
theorem m_X7_hasEducator (S : MS) (hB : BD S) (x : Int32) : MM zX7_hasEducator 1 [.int x] S (pB S (hasE S x)) := by
  intro D Y h0 ad
  refine MT.of [(0, .ref h0), (1, .int x)] (by decide) rfl (Nat.le_of_ble_eq_true rfl) ?_
  intro K hR X E
  refine j_iload_n X dX7_hasEducator_0 rfl 1 rfl ?_
  refine j_iconst (v := nI 0) X dX7_hasEducator_1 (by decide) ?_
  refine j_bipush (v := nI 7) X dX7_hasEducator_2 (by decide) ?_
  refine jst_call3 X hR (m_X7_within _ _ _) m_X7_77 (by decide) (by decide) (Nat.le_of_ble_eq_true rfl) ⟨by decide, by decide⟩ dX7_hasEducator_4 ?_
  refine b_if_eq (tgt := 24) X dX7_hasEducator_7 (by decide) (fun c_7 => ?_) (fun c_7 => ?_)
  · refine j_iconst (v := bI false) X dX7_hasEducator_24 (by decide) ?_
    exact j_zreturn X E (S) rfl ⟨_, rfl, by first | (simp [hasE, c_7]; done) | (rw [nI_clamp (by omega)] at *; simp_all [hasE]; done) | simp_all [hasE], rfl⟩ dX7_hasEducator_25
  · obtain ⟨c, hc, rfl⟩ := within_0 (by decide) c_7
    have hcl := nI_clamp (n := c) (by omega)
    refine j_aload_n X dX7_hasEducator_10 rfl 0 rfl ?_
    refine jm_get X 8 (by decide) rfl f_X7_31 dX7_hasEducator_11 ?_
    refine j_iload_n X dX7_hasEducator_14 rfl 1 rfl ?_
    refine jm_ald X hB (by decide) (by show _ < 8; omega) dX7_hasEducator_15 (fun v_15 e_15 b_15 => ?_)
    refine j_iconst (v := nI 1) X dX7_hasEducator_16 (by decide) ?_
    refine n_icmp_ne (tgt := 24) X dX7_hasEducator_17 (by decide) (by omega) (by omega) (fun c_17 => ?_) (fun c_17 => ?_)
    · refine j_iconst (v := bI false) X dX7_hasEducator_24 (by decide) ?_
      exact j_zreturn X E (S) rfl ⟨_, rfl, by first | (simp [hasE, c_7, c_17]; done) | (rw [nI_clamp (by omega)] at *; simp_all [hasE]; done) | simp_all [hasE], rfl⟩ dX7_hasEducator_25
    · refine j_iconst (v := bI true) X dX7_hasEducator_20 (by decide) ?_
      refine j_goto (tgt := 25) X dX7_hasEducator_21 (by decide) ?_
      exact j_zreturn X E (S) rfl ⟨_, rfl, by first | (simp [hasE, c_7, c_17]; done) | (rw [nI_clamp (by omega)] at *; simp_all [hasE]; done) | simp_all [hasE], rfl⟩ dX7_hasEducator_25
set_option maxRecDepth 100000 in
set_option maxHeartbeats 4000000 in
theorem m_X7_educatorMany (S : MS) (hB : BD S) (hI : IV S) : MM zX7_educatorMany 0 [] S (pN S (eduN S) 8) := by
  intro D Y h0 ad
  refine MT.of [(0, .ref h0)] (by decide) rfl (Nat.le_of_ble_eq_true rfl) ?_
  intro K hR X E
  refine j_iconst (v := nI 0) X dX7_educatorMany_0 (by decide) ?_
  refine j_istore_n X [(1, _), (0, _)] dX7_educatorMany_1 rfl (by decide) rfl ?_
  refine j_iconst (v := nI 0) X dX7_educatorMany_2 (by decide) ?_
  refine j_istore_n X [(2, _), (1, _), (0, _)] dX7_educatorMany_3 rfl (by decide) rfl ?_
  have L4 : ∀ (n : Nat) (i s : Nat), (i ≤ 8) → (s = sm (fun e => S 7 e) i) → (8 + 1 ≤ i + n) → JJ K D 0 0 (WM h0 ad Y S) [(0, .ref h0), (1, .int (nI s)), (2, .int (nI i))] 4 [] := by
    intro n
    induction n with
    | zero =>
      intro i s hi hs hf4
      exact absurd hf4 (by omega)
    | succ n4 ih4 =>
      intro i s hi hs hf4
      refine j_iload_n X dX7_educatorMany_4 rfl 2 rfl ?_
      refine j_bipush (v := nI 8) X dX7_educatorMany_5 (by decide) ?_
      refine n_icmp_ge (tgt := 25) X dX7_educatorMany_7 (by decide) (by omega) (by omega) (fun c_7 => ?_) (fun c_7 => ?_)
      · have hle : sm (fun e => S 7 e) 8 ≤ 8 * 1 := sm_le (fun i hi => hI.2.2.2.1 i hi)
        have hi8 : i = 8 := by omega
        subst hi8
        refine j_iload_n X dX7_educatorMany_25 rfl 1 rfl ?_
        exact j_ireturn X E (S) rfl ⟨_, rfl, _, hs, by omega, rfl, rfl⟩ dX7_educatorMany_26
      · refine j_iload_n X dX7_educatorMany_10 rfl 1 rfl ?_
        refine j_aload_n X dX7_educatorMany_11 rfl 0 rfl ?_
        refine jm_get X 8 (by decide) rfl f_X7_31 dX7_educatorMany_12 ?_
        refine j_iload_n X dX7_educatorMany_15 rfl 2 rfl ?_
        refine jm_ald X hB (by decide) (by show _ < 8; omega) dX7_educatorMany_16 (fun v_16 e_16 b_16 => ?_)
        refine n_iadd X dX7_educatorMany_17 ?_
        refine j_istore_n X [(1, _), (0, _), (2, _)] dX7_educatorMany_18 rfl (by decide) rfl ?_
        refine n_iinc X [(2, _), (1, _), (0, _)] dX7_educatorMany_19 (q := 2) (b := 1) rfl (by decide) (by decide) rfl ?_
        refine j_goto (tgt := 4) X dX7_educatorMany_22 (by decide) ?_
        exact j_sub [2, 1, 0] rfl (ih4 _ _ (by omega) (by rw [sm_s]; omega) (by omega))
  exact j_sub [2, 1, 0] rfl (L4 9 _ _ (by omega) (by rfl) (by omega))
set_option maxRecDepth 100000 in
set_option maxHeartbeats 4000000 in
theorem m_X7_educators (S : MS) (hB : BD S) (hI : IV S) : MM zX7_educators 1 [] S (pN S (eduN S) 8) := by
  intro D Y h0 ad
  refine MT.of [(0, .ref h0)] (by decide) rfl (Nat.le_of_ble_eq_true rfl) ?_
  intro K hR X E
  refine j_aload_n X dX7_educators_0 rfl 0 rfl ?_
  refine jm_callI0 X hR (m_X7_educatorMany S hB hI) m_X7_145 rfl (by decide) (by decide) (Nat.le_of_ble_eq_true rfl) ⟨by decide, by decide⟩ dX7_educators_1 ?_
  rintro _ _ ⟨v_1, e_1, b_1, rfl, rfl⟩
  exact j_ireturn X E (S) rfl ⟨_, rfl, _, e_1, b_1, rfl, rfl⟩ dX7_educators_4
