set_option maxRecDepth 100000 in
set_option maxHeartbeats 4000000 in
theorem m_X7_feeOf (S : MS) (hB : BD S) (hI : IV S) (c : Nat) (hc : c < 24) : MM zX7_feeOf 1 [.int (nI c)] S (pN S (feeN S c) 1000000) := by
  intro D Y h0 ad
  refine MT.of [(0, .ref h0), (1, .int (nI c))] (by decide) rfl (Nat.le_of_ble_eq_true rfl) ?_
  intro K hR X E
  refine j_iconst (v := nI 0) X dX7_feeOf_0 (by decide) ?_
  refine j_istore_n X [(2, _), (0, _), (1, _)] dX7_feeOf_1 rfl (by decide) rfl ?_
  refine j_iconst (v := nI 0) X dX7_feeOf_2 (by decide) ?_
  refine j_istore_n X [(3, _), (2, _), (0, _), (1, _)] dX7_feeOf_3 rfl (by decide) rfl ?_
  have L4 : ∀ (n : Nat) (i s : Nat), (i ≤ 24) → (s = sm (fun k => ct (oldB S c k)) i) → (24 + 1 ≤ i + n) → JJ K D 0 0 (WM h0 ad Y S) [(0, .ref h0), (1, .int (nI c)), (2, .int (nI s)), (3, .int (nI i))] 4 [] := by
    intro n
    induction n with
    | zero =>
      intro i s hi hs hf4
      exact absurd hf4 (by omega)
    | succ n4 ih4 =>
      intro i s hi hs hf4
      refine j_iload_n X dX7_feeOf_4 rfl 3 rfl ?_
      refine j_bipush (v := nI 24) X dX7_feeOf_5 (by decide) ?_
      refine n_icmp_ge (tgt := 94) X dX7_feeOf_7 (by decide) (by omega) (by omega) (fun c_7 => ?_) (fun c_7 => ?_)
      · have hi24 : i = 24 := by omega
        subst hi24
        have hle : sm (fun k => ct (oldB S c k)) 24 ≤ 24 * 1 := sm_le (fun i hi => ct_le _)
        have L115 : ∀ (p : Nat), (p = pctN s) → JJ K D 0 0 (WM h0 ad Y S) [(0, .ref h0), (1, .int (nI c))] 115 [.int (nI p)] := by
          intro p hp
          refine j_istore_n X [(3, _), (0, _), (1, _)] dX7_feeOf_115 rfl (by decide) rfl ?_
          refine j_iconst (v := nI 4) X dX7_feeOf_116 (by decide) ?_
          refine j_aload_n X dX7_feeOf_117 rfl 1 rfl ?_
          refine j_iload_n X dX7_feeOf_118 rfl 2 rfl ?_
          refine jm_callI1 X hR (m_X7_hoursOf S hB hI _ (by omega)) m_X7_89 rfl (by decide) (by decide) (Nat.le_of_ble_eq_true rfl) ⟨by decide, by decide⟩ dX7_feeOf_119 ?_
          rintro _ _ ⟨v_119, e_119, b_119, rfl, rfl⟩
          refine n_imul X dX7_feeOf_122 ?_
          refine j_aload_n X dX7_feeOf_123 rfl 1 rfl ?_
          refine jm_get X 13 (by decide) rfl f_X7_46 dX7_feeOf_124 ?_
          refine j_aload_n X dX7_feeOf_127 rfl 1 rfl ?_
          refine j_iload_n X dX7_feeOf_128 rfl 2 rfl ?_
          refine jm_callI1 X hR (m_X7_ageGroup S hB _ (by omega)) m_X7_99 rfl (by decide) (by decide) (Nat.le_of_ble_eq_true rfl) ⟨by decide, by decide⟩ dX7_feeOf_129 ?_
          rintro _ _ ⟨v_129, e_129, b_129, rfl, rfl⟩
          refine jm_ald X hB (by decide) (by show _ < 3; omega) dX7_feeOf_132 (fun v_132 e_132 b_132 => ?_)
          refine n_imul X dX7_feeOf_133 ?_
          refine j_iload_n X dX7_feeOf_134 rfl 0 rfl ?_
          refine n_imul X dX7_feeOf_135 ?_
          have hv := hI.2.2.2.2.2.2.1 v_129 (by omega)
          have hq := Nat.mul_le_mul (Nat.mul_le_mul (show 4 * v_119 ≤ 200 by omega) (show v_132 ≤ 5000 by omega)) (show p ≤ 100 by rw [hp]; exact pct_le _)
          refine j_bipush (v := nI 100) X dX7_feeOf_136 (by decide) ?_
          refine n_idiv X dX7_feeOf_138 (by omega) (by omega) (by omega) ?_
          exact j_ireturn X E (S) rfl ⟨_, rfl, _, by unfold feeN rankN; rw [e_119, e_132, e_129, hp, hs], by omega, rfl, rfl⟩ dX7_feeOf_139
        refine j_iload_n X dX7_feeOf_94 rfl 2 rfl ?_
        refine n_if_ne (tgt := 103) X dX7_feeOf_95 (by decide) (by omega) (fun c_95 => ?_) (fun c_95 => ?_)
        · refine j_iload_n X dX7_feeOf_103 rfl 2 rfl ?_
          refine j_iconst (v := nI 1) X dX7_feeOf_104 (by decide) ?_
          refine n_icmp_ne (tgt := 113) X dX7_feeOf_105 (by decide) (by omega) (by omega) (fun c_105 => ?_) (fun c_105 => ?_)
          · refine j_bipush (v := nI 40) X dX7_feeOf_113 (by decide) ?_
            exact j_sub [0, 1] rfl (L115 _ (by simp [pctN, c_7, c_95, c_105]) )
          · refine j_bipush (v := nI 70) X dX7_feeOf_108 (by decide) ?_
            refine j_goto (tgt := 115) X dX7_feeOf_110 (by decide) ?_
            exact j_sub [0, 1] rfl (L115 _ (by simp [pctN, c_7, c_95, c_105]) )
        · refine j_bipush (v := nI 100) X dX7_feeOf_98 (by decide) ?_
          refine j_goto (tgt := 115) X dX7_feeOf_100 (by decide) ?_
          exact j_sub [0, 1] rfl (L115 _ (by simp [pctN, c_7, c_95]) )
      · have L50 : ∀ (ob : Bool), (ob = (decide (S 1 c < S 1 i) || decide (S 1 i = S 1 c) && decide (i < c))) → JJ K D 0 0 (WM h0 ad Y S) [(0, .ref h0), (1, .int (nI c)), (2, .int (nI s)), (3, .int (nI i))] 50 [.int (bI ob)] := by
          intro ob hob
          have hold : oldB S c i = (isIn S i && decide (S 2 i = S 2 c) && ob) := by rw [hob]; rfl
          refine j_istore X [(4, _), (0, _), (1, _), (2, _), (3, _)] dX7_feeOf_50 (by decide) rfl ?_
          refine j_iload_n X dX7_feeOf_52 rfl 3 rfl ?_
          refine j_aload_n X dX7_feeOf_53 rfl 1 rfl ?_
          refine j_iload_n X dX7_feeOf_54 rfl 4 rfl ?_
          refine jm_callI1 X hR (m_X7_isIn S hB _ (by omega)) m_X7_93 rfl (by decide) (by decide) (Nat.le_of_ble_eq_true rfl) ⟨by decide, by decide⟩ dX7_feeOf_55 ?_
          rintro _ _ ⟨rfl, rfl⟩
          refine b_if_eq (tgt := 85) X dX7_feeOf_58 (by decide) (fun c_58 => ?_) (fun c_58 => ?_)
          · refine j_iconst (v := nI 0) X dX7_feeOf_85 (by decide) ?_
            refine n_iadd X dX7_feeOf_86 ?_
            refine j_istore_n X [(2, _), (4, _), (0, _), (1, _), (3, _)] dX7_feeOf_87 rfl (by decide) rfl ?_
            refine n_iinc X [(3, _), (2, _), (4, _), (0, _), (1, _)] dX7_feeOf_88 (q := 4) (b := 1) rfl (by decide) (by decide) rfl ?_
            refine j_goto (tgt := 4) X dX7_feeOf_91 (by decide) ?_
            exact j_sub [3, 4, 1, 0] rfl (ih4 _ _ (by omega) (by rw [sm_s, hs]; congr 1; simp [hold, ct, c_58]) (by omega))
          · refine j_aload_n X dX7_feeOf_61 rfl 1 rfl ?_
            refine jm_get X 3 (by decide) rfl f_X7_16 dX7_feeOf_62 ?_
            refine j_iload_n X dX7_feeOf_65 rfl 4 rfl ?_
            refine jm_ald X hB (by decide) (by show _ < 24; omega) dX7_feeOf_66 (fun v_66 e_66 b_66 => ?_)
            refine j_aload_n X dX7_feeOf_67 rfl 1 rfl ?_
            refine jm_get X 3 (by decide) rfl f_X7_16 dX7_feeOf_68 ?_
            refine j_iload_n X dX7_feeOf_71 rfl 2 rfl ?_
            refine jm_ald X hB (by decide) (by show _ < 24; omega) dX7_feeOf_72 (fun v_72 e_72 b_72 => ?_)
            subst e_66 e_72
            refine n_icmp_ne (tgt := 85) X dX7_feeOf_73 (by decide) (by omega) (by omega) (fun c_73 => ?_) (fun c_73 => ?_)
            · refine j_iconst (v := nI 0) X dX7_feeOf_85 (by decide) ?_
              refine n_iadd X dX7_feeOf_86 ?_
              refine j_istore_n X [(2, _), (4, _), (0, _), (1, _), (3, _)] dX7_feeOf_87 rfl (by decide) rfl ?_
              refine n_iinc X [(3, _), (2, _), (4, _), (0, _), (1, _)] dX7_feeOf_88 (q := 4) (b := 1) rfl (by decide) (by decide) rfl ?_
              refine j_goto (tgt := 4) X dX7_feeOf_91 (by decide) ?_
              exact j_sub [3, 4, 1, 0] rfl (ih4 _ _ (by omega) (by rw [sm_s, hs]; congr 1; simp [hold, ct, c_58, c_73]) (by omega))
            · refine j_iload X dX7_feeOf_76 0 rfl ?_
              refine b_if_eq (tgt := 85) X dX7_feeOf_78 (by decide) (fun c_78 => ?_) (fun c_78 => ?_)
              · refine j_iconst (v := nI 0) X dX7_feeOf_85 (by decide) ?_
                refine n_iadd X dX7_feeOf_86 ?_
                refine j_istore_n X [(2, _), (4, _), (0, _), (1, _), (3, _)] dX7_feeOf_87 rfl (by decide) rfl ?_
                refine n_iinc X [(3, _), (2, _), (4, _), (0, _), (1, _)] dX7_feeOf_88 (q := 4) (b := 1) rfl (by decide) (by decide) rfl ?_
                refine j_goto (tgt := 4) X dX7_feeOf_91 (by decide) ?_
                exact j_sub [3, 4, 1, 0] rfl (ih4 _ _ (by omega) (by rw [sm_s, hs]; congr 1; simp [hold, ct, c_58, c_73, c_78]) (by omega))
              · refine j_iconst (v := nI 1) X dX7_feeOf_81 (by decide) ?_
                refine j_goto (tgt := 86) X dX7_feeOf_82 (by decide) ?_
                refine n_iadd X dX7_feeOf_86 ?_
                refine j_istore_n X [(2, _), (4, _), (0, _), (1, _), (3, _)] dX7_feeOf_87 rfl (by decide) rfl ?_
                refine n_iinc X [(3, _), (2, _), (4, _), (0, _), (1, _)] dX7_feeOf_88 (q := 4) (b := 1) rfl (by decide) (by decide) rfl ?_
                refine j_goto (tgt := 4) X dX7_feeOf_91 (by decide) ?_
                exact j_sub [3, 4, 1, 0] rfl (ih4 _ _ (by omega) (by rw [sm_s, hs]; congr 1; simp [hold, ct, c_58, c_73, c_78]) (by omega))
        refine j_aload_n X dX7_feeOf_10 rfl 0 rfl ?_
        refine jm_get X 2 (by decide) rfl f_X7_13 dX7_feeOf_11 ?_
        refine j_iload_n X dX7_feeOf_14 rfl 3 rfl ?_
        refine jm_ald X hB (by decide) (by show _ < 24; omega) dX7_feeOf_15 (fun v_15 e_15 b_15 => ?_)
        refine j_aload_n X dX7_feeOf_16 rfl 0 rfl ?_
        refine jm_get X 2 (by decide) rfl f_X7_13 dX7_feeOf_17 ?_
        refine j_iload_n X dX7_feeOf_20 rfl 1 rfl ?_
        refine jm_ald X hB (by decide) (by show _ < 24; omega) dX7_feeOf_21 (fun v_21 e_21 b_21 => ?_)
        refine n_icmp_gt (tgt := 45) X dX7_feeOf_22 (by decide) (by omega) (by omega) (fun c_22 => ?_) (fun c_22 => ?_)
        · refine j_iconst (v := bI true) X dX7_feeOf_45 (by decide) ?_
          refine j_goto (tgt := 50) X dX7_feeOf_46 (by decide) ?_
          exact j_sub [0, 1, 2, 3] rfl (L50 _ (by symm; simp; omega) )
        · refine j_aload_n X dX7_feeOf_25 rfl 0 rfl ?_
          refine jm_get X 2 (by decide) rfl f_X7_13 dX7_feeOf_26 ?_
          refine j_iload_n X dX7_feeOf_29 rfl 3 rfl ?_
          refine jm_ald X hB (by decide) (by show _ < 24; omega) dX7_feeOf_30 (fun v_30 e_30 b_30 => ?_)
          refine j_aload_n X dX7_feeOf_31 rfl 0 rfl ?_
          refine jm_get X 2 (by decide) rfl f_X7_13 dX7_feeOf_32 ?_
          refine j_iload_n X dX7_feeOf_35 rfl 1 rfl ?_
          refine jm_ald X hB (by decide) (by show _ < 24; omega) dX7_feeOf_36 (fun v_36 e_36 b_36 => ?_)
          refine n_icmp_ne (tgt := 49) X dX7_feeOf_37 (by decide) (by omega) (by omega) (fun c_37 => ?_) (fun c_37 => ?_)
          · refine j_iconst (v := bI false) X dX7_feeOf_49 (by decide) ?_
            exact j_sub [0, 1, 2, 3] rfl (L50 _ (by symm; simp; omega) )
          · refine j_iload_n X dX7_feeOf_40 rfl 3 rfl ?_
            refine j_iload_n X dX7_feeOf_41 rfl 1 rfl ?_
            refine n_icmp_ge (tgt := 49) X dX7_feeOf_42 (by decide) (by omega) (by omega) (fun c_42 => ?_) (fun c_42 => ?_)
            · refine j_iconst (v := bI false) X dX7_feeOf_49 (by decide) ?_
              exact j_sub [0, 1, 2, 3] rfl (L50 _ (by symm; simp; omega) )
            · refine j_iconst (v := bI true) X dX7_feeOf_45 (by decide) ?_
              refine j_goto (tgt := 50) X dX7_feeOf_46 (by decide) ?_
              exact j_sub [0, 1, 2, 3] rfl (L50 _ (by symm; simp; omega) )
  exact j_sub [2, 3, 1, 0] rfl (L4 25 _ _ (by omega) (by rfl) (by omega))
set_option maxRecDepth 100000 in
set_option maxHeartbeats 4000000 in
theorem m_X7_fee (S : MS) (hB : BD S) (hI : IV S) (x : Int32) : MM zX7_fee 2 [.int x] S (pZ S (feeI S x)) := by
  intro D Y h0 ad
  refine MT.of [(0, .ref h0), (1, .int x)] (by decide) rfl (Nat.le_of_ble_eq_true rfl) ?_
  intro K hR X E
  refine j_aload_n X dX7_fee_0 rfl 0 rfl ?_
  refine j_iload_n X dX7_fee_1 rfl 1 rfl ?_
  refine jm_callI1 X hR (m_X7_hasChild S hB _) m_X7_85 rfl (by decide) (by decide) (Nat.le_of_ble_eq_true rfl) ⟨by decide, by decide⟩ dX7_fee_2 ?_
  rintro _ _ ⟨rfl, rfl⟩
  refine b_if_ne (tgt := 12) X dX7_fee_5 (by decide) (fun c_5 => ?_) (fun c_5 => ?_)
  · obtain ⟨c, hc, rfl, h0c⟩ := hasC_of c_5
    have hcl := nI_clamp (n := c) (by omega)
    refine j_aload_n X dX7_fee_12 rfl 0 rfl ?_
    refine jm_get X 4 (by decide) rfl f_X7_19 dX7_fee_13 ?_
    refine j_iload_n X dX7_fee_16 rfl 1 rfl ?_
    refine jm_ald X hB (by decide) (by show _ < 24; omega) dX7_fee_17 (fun v_17 e_17 b_17 => ?_)
    refine n_if_ne (tgt := 26) X dX7_fee_18 (by decide) (by omega) (fun c_18 => ?_) (fun c_18 => ?_)
    · refine j_aload_n X dX7_fee_26 rfl 0 rfl ?_
      refine j_iload_n X dX7_fee_27 rfl 1 rfl ?_
      refine jm_callI1 X hR (m_X7_feeOf S hB hI _ (by omega)) m_X7_165 rfl (by decide) (by decide) (Nat.le_of_ble_eq_true rfl) ⟨by decide, by decide⟩ dX7_fee_28 ?_
      rintro _ _ ⟨v_28, e_28, b_28, rfl, rfl⟩
      exact j_ireturn X E (S) rfl ⟨_, rfl, by (try subst e_17); simp [feeI, tn, c_5, c_18, *], rfl⟩ dX7_fee_31
    · refine j_bipush (v := (-2)) X dX7_fee_21 (by decide) ?_
      refine j_goto (tgt := 31) X dX7_fee_23 (by decide) ?_
      exact j_ireturn X E (S) rfl ⟨_, rfl, by (try subst e_17); simp [feeI, tn, c_5, c_18, *], rfl⟩ dX7_fee_31
  · refine j_iconst (v := (-1)) X dX7_fee_8 (by decide) ?_
    refine j_goto (tgt := 31) X dX7_fee_9 (by decide) ?_
    exact j_ireturn X E (S) rfl ⟨_, rfl, by (try subst e_17); simp [feeI, tn, c_5, *], rfl⟩ dX7_fee_31
set_option maxRecDepth 100000 in
set_option maxHeartbeats 4000000 in
theorem m_X7_feesOf (S : MS) (hB : BD S) (hI : IV S) (w : Int32) : MM zX7_feesOf 2 [.int w] S (pN S (feesN S w) 24000000) := by
  intro D Y h0 ad
  refine MT.of [(0, .ref h0), (1, .int w)] (by decide) rfl (Nat.le_of_ble_eq_true rfl) ?_
  intro K hR X E
  refine j_iconst (v := nI 0) X dX7_feesOf_0 (by decide) ?_
  refine j_istore_n X [(2, _), (0, _), (1, _)] dX7_feesOf_1 rfl (by decide) rfl ?_
  refine j_iconst (v := nI 0) X dX7_feesOf_2 (by decide) ?_
  refine j_istore_n X [(3, _), (2, _), (0, _), (1, _)] dX7_feesOf_3 rfl (by decide) rfl ?_
  have L4 : ∀ (n : Nat) (i s : Nat), (i ≤ 24) → (s = sm (payN S w) i) → (24 + 1 ≤ i + n) → JJ K D 0 0 (WM h0 ad Y S) [(0, .ref h0), (1, .int w), (2, .int (nI s)), (3, .int (nI i))] 4 [] := by
    intro n
    induction n with
    | zero =>
      intro i s hi hs hf4
      exact absurd hf4 (by omega)
    | succ n4 ih4 =>
      intro i s hi hs hf4
      refine j_iload_n X dX7_feesOf_4 rfl 3 rfl ?_
      refine j_bipush (v := nI 24) X dX7_feesOf_5 (by decide) ?_
      refine n_icmp_ge (tgt := 52) X dX7_feesOf_7 (by decide) (by omega) (by omega) (fun c_7 => ?_) (fun c_7 => ?_)
      · have hle := feesN_le hI (w := w)
        have hi24 : i = 24 := by omega
        subst hi24
        have hs2 : s = feesN S w := hs
        refine j_iload_n X dX7_feesOf_52 rfl 2 rfl ?_
        exact j_ireturn X E (S) rfl ⟨_, rfl, _, hs2, by omega, rfl, rfl⟩ dX7_feesOf_53
      · refine j_iload_n X dX7_feesOf_10 rfl 2 rfl ?_
        refine j_aload_n X dX7_feesOf_11 rfl 0 rfl ?_
        refine j_iload_n X dX7_feesOf_12 rfl 3 rfl ?_
        refine jm_callI1 X hR (m_X7_isIn S hB _ (by omega)) m_X7_93 rfl (by decide) (by decide) (Nat.le_of_ble_eq_true rfl) ⟨by decide, by decide⟩ dX7_feesOf_13 ?_
        rintro _ _ ⟨rfl, rfl⟩
        refine b_if_eq (tgt := 43) X dX7_feesOf_16 (by decide) (fun c_16 => ?_) (fun c_16 => ?_)
        · refine j_iconst (v := nI 0) X dX7_feesOf_43 (by decide) ?_
          refine n_iadd X dX7_feesOf_44 ?_
          refine j_istore_n X [(2, _), (0, _), (1, _), (3, _)] dX7_feesOf_45 rfl (by decide) rfl ?_
          refine n_iinc X [(3, _), (2, _), (0, _), (1, _)] dX7_feesOf_46 (q := 3) (b := 1) rfl (by decide) (by decide) rfl ?_
          refine j_goto (tgt := 4) X dX7_feesOf_49 (by decide) ?_
          exact j_sub [2, 3, 1, 0] rfl (ih4 _ _ (by omega) (by rw [sm_s, hs]; congr 1; simp [payN, c_7, c_16, *]) (by omega))
        · refine j_iload_n X dX7_feesOf_19 rfl 1 rfl ?_
          refine j_bipush (v := (-9)) X dX7_feesOf_20 (by decide) ?_
          refine j_icmp_eq (tgt := 35) X dX7_feesOf_22 (by decide) (fun c_22 => ?_) (fun c_22 => ?_)
          · refine j_aload_n X dX7_feesOf_35 rfl 0 rfl ?_
            refine j_iload_n X dX7_feesOf_36 rfl 3 rfl ?_
            refine jm_callI1 X hR (m_X7_feeOf S hB hI _ (by omega)) m_X7_165 rfl (by decide) (by decide) (Nat.le_of_ble_eq_true rfl) ⟨by decide, by decide⟩ dX7_feesOf_37 ?_
            rintro _ _ ⟨v_37, e_37, b_37, rfl, rfl⟩
            refine j_goto (tgt := 44) X dX7_feesOf_40 (by decide) ?_
            refine n_iadd X dX7_feesOf_44 ?_
            refine j_istore_n X [(2, _), (0, _), (1, _), (3, _)] dX7_feesOf_45 rfl (by decide) rfl ?_
            refine n_iinc X [(3, _), (2, _), (0, _), (1, _)] dX7_feesOf_46 (q := 3) (b := 1) rfl (by decide) (by decide) rfl ?_
            refine j_goto (tgt := 4) X dX7_feesOf_49 (by decide) ?_
            exact j_sub [2, 3, 1, 0] rfl (ih4 _ _ (by omega) (by rw [sm_s, hs]; congr 1; simp [payN, c_7, c_16, c_22, *]) (by omega))
          · refine j_aload_n X dX7_feesOf_25 rfl 0 rfl ?_
            refine jm_get X 3 (by decide) rfl f_X7_16 dX7_feesOf_26 ?_
            refine j_iload_n X dX7_feesOf_29 rfl 3 rfl ?_
            refine jm_ald X hB (by decide) (by show _ < 24; omega) dX7_feesOf_30 (fun v_30 e_30 b_30 => ?_)
            refine j_iload_n X dX7_feesOf_31 rfl 1 rfl ?_
            subst e_30
            refine j_icmp_ne (tgt := 43) X dX7_feesOf_32 (by decide) (fun c_32 => ?_) (fun c_32 => ?_)
            · refine j_iconst (v := nI 0) X dX7_feesOf_43 (by decide) ?_
              refine n_iadd X dX7_feesOf_44 ?_
              refine j_istore_n X [(2, _), (0, _), (1, _), (3, _)] dX7_feesOf_45 rfl (by decide) rfl ?_
              refine n_iinc X [(3, _), (2, _), (0, _), (1, _)] dX7_feesOf_46 (q := 3) (b := 1) rfl (by decide) (by decide) rfl ?_
              refine j_goto (tgt := 4) X dX7_feesOf_49 (by decide) ?_
              exact j_sub [2, 3, 1, 0] rfl (ih4 _ _ (by omega) (by rw [sm_s, hs]; congr 1; simp [payN, c_7, c_16, c_22, c_32, *]) (by omega))
            · refine j_aload_n X dX7_feesOf_35 rfl 0 rfl ?_
              refine j_iload_n X dX7_feesOf_36 rfl 3 rfl ?_
              refine jm_callI1 X hR (m_X7_feeOf S hB hI _ (by omega)) m_X7_165 rfl (by decide) (by decide) (Nat.le_of_ble_eq_true rfl) ⟨by decide, by decide⟩ dX7_feesOf_37 ?_
              rintro _ _ ⟨v_37, e_37, b_37, rfl, rfl⟩
              refine j_goto (tgt := 44) X dX7_feesOf_40 (by decide) ?_
              refine n_iadd X dX7_feesOf_44 ?_
              refine j_istore_n X [(2, _), (0, _), (1, _), (3, _)] dX7_feesOf_45 rfl (by decide) rfl ?_
              refine n_iinc X [(3, _), (2, _), (0, _), (1, _)] dX7_feesOf_46 (q := 3) (b := 1) rfl (by decide) (by decide) rfl ?_
              refine j_goto (tgt := 4) X dX7_feesOf_49 (by decide) ?_
              exact j_sub [2, 3, 1, 0] rfl (ih4 _ _ (by omega) (by rw [sm_s, hs]; congr 1; simp [payN, c_7, c_16, c_22, c_32, *]) (by omega))
  exact j_sub [2, 3, 1, 0] rfl (L4 25 _ _ (by omega) (by rfl) (by omega))
set_option maxRecDepth 100000 in
set_option maxHeartbeats 4000000 in
theorem m_X7_income (S : MS) (hB : BD S) (hI : IV S) : MM zX7_income 3 [] S (pN S (feesN S (-9)) 24000000) := by
  intro D Y h0 ad
  refine MT.of [(0, .ref h0)] (by decide) rfl (Nat.le_of_ble_eq_true rfl) ?_
  intro K hR X E
  refine j_aload_n X dX7_income_0 rfl 0 rfl ?_
  refine j_bipush (v := (-9)) X dX7_income_1 (by decide) ?_
  refine jm_callI1 X hR (m_X7_feesOf S hB hI _) m_X7_168 rfl (by decide) (by decide) (Nat.le_of_ble_eq_true rfl) ⟨by decide, by decide⟩ dX7_income_3 ?_
  rintro _ _ ⟨v_3, e_3, b_3, rfl, rfl⟩
  exact j_ireturn X E (S) rfl ⟨_, rfl, _, e_3, b_3, rfl, rfl⟩ dX7_income_6
set_option maxRecDepth 100000 in
set_option maxHeartbeats 4000000 in
theorem m_X7_familyFeeIfAdmitted (S : MS) (hB : BD S) (hI : IV S) (x : Int32) : MM zX7_familyFeeIfAdmitted 3 [.int x] S (pS (ffR S x) S) := by
  intro D Y h0 ad
  refine MT.of [(0, .ref h0), (1, .int x)] (by decide) rfl (Nat.le_of_ble_eq_true rfl) ?_
  intro K hR X E
  refine j_aload_n X dX7_familyFeeIfAdmitted_0 rfl 0 rfl ?_
  refine j_iload_n X dX7_familyFeeIfAdmitted_1 rfl 1 rfl ?_
  refine jm_callI1 X hR (m_X7_hasChild S hB _) m_X7_85 rfl (by decide) (by decide) (Nat.le_of_ble_eq_true rfl) ⟨by decide, by decide⟩ dX7_familyFeeIfAdmitted_2 ?_
  rintro _ _ ⟨rfl, rfl⟩
  refine b_if_ne (tgt := 10) X dX7_familyFeeIfAdmitted_5 (by decide) (fun c_5 => ?_) (fun c_5 => ?_)
  · obtain ⟨c, hc, rfl, h0c⟩ := hasC_of c_5
    have hcl := nI_clamp (n := c) (by omega)
    refine j_aload_n X dX7_familyFeeIfAdmitted_10 rfl 0 rfl ?_
    refine jm_get X 4 (by decide) rfl f_X7_19 dX7_familyFeeIfAdmitted_11 ?_
    refine j_iload_n X dX7_familyFeeIfAdmitted_14 rfl 1 rfl ?_
    refine jm_ald X hB (by decide) (by show _ < 24; omega) dX7_familyFeeIfAdmitted_15 (fun v_15 e_15 b_15 => ?_)
    subst e_15
    refine j_iconst (v := nI 1) X dX7_familyFeeIfAdmitted_16 (by decide) ?_
    refine n_icmp_ne (tgt := 23) X dX7_familyFeeIfAdmitted_17 (by decide) (by omega) (by omega) (fun c_17 => ?_) (fun c_17 => ?_)
    · refine j_aload_n X dX7_familyFeeIfAdmitted_23 rfl 0 rfl ?_
      refine jm_get X 4 (by decide) rfl f_X7_19 dX7_familyFeeIfAdmitted_24 ?_
      refine j_iload_n X dX7_familyFeeIfAdmitted_27 rfl 1 rfl ?_
      refine j_iconst (v := nI 1) X dX7_familyFeeIfAdmitted_28 (by decide) ?_
      refine jm_ast2 X hB (by decide) (by show _ < 24; omega) (by omega) dX7_familyFeeIfAdmitted_29 (fun S_29 eS_29 hB_29 => ?_)
      have hI2 : IV S_29 := by rw [eS_29]; exact IV_adm hI (by omega)
      refine j_aload_n X dX7_familyFeeIfAdmitted_30 rfl 0 rfl ?_
      refine j_aload_n X dX7_familyFeeIfAdmitted_31 rfl 0 rfl ?_
      refine jm_get X 3 (by decide) rfl f_X7_16 dX7_familyFeeIfAdmitted_32 ?_
      refine j_iload_n X dX7_familyFeeIfAdmitted_35 rfl 1 rfl ?_
      refine jm_ald X hB_29 (by decide) (by show _ < 24; omega) dX7_familyFeeIfAdmitted_36 (fun v_36 e_36 b_36 => ?_)
      have e36 : v_36 = S 2 c := by rw [e_36, eS_29]; exact uM_nk (by omega)
      subst e36
      refine jm_callI1 X hR (m_X7_feesOf S_29 hB_29 hI2 _) m_X7_168 rfl (by decide) (by decide) (Nat.le_of_ble_eq_true rfl) ⟨by decide, by decide⟩ dX7_familyFeeIfAdmitted_37 ?_
      rintro _ _ ⟨v_37, e_37, b_37, rfl, rfl⟩
      refine j_istore_n X [(2, _), (0, _), (1, _)] dX7_familyFeeIfAdmitted_40 rfl (by decide) rfl ?_
      refine j_aload_n X dX7_familyFeeIfAdmitted_41 rfl 1 rfl ?_
      refine jm_get X 4 (by decide) rfl f_X7_19 dX7_familyFeeIfAdmitted_42 ?_
      refine j_iload_n X dX7_familyFeeIfAdmitted_45 rfl 2 rfl ?_
      refine j_iconst (v := nI 0) X dX7_familyFeeIfAdmitted_46 (by decide) ?_
      refine jm_ast2 X hB_29 (by decide) (by show _ < 24; omega) (by omega) dX7_familyFeeIfAdmitted_47 (fun S_47 eS_47 hB_47 => ?_)
      have hadm : S 3 c = 0 := by have := hI.2.2.1 c hc; omega
      have hSS : S_47 = S := by rw [eS_47, eS_29]; exact uM_back hadm
      refine j_eqw (w2 := WM h0 ad Y S) (by rw [hSS]) ?_
      refine j_iload_n X dX7_familyFeeIfAdmitted_48 rfl 0 rfl ?_
      exact j_ireturn X E (S) rfl ⟨_, rfl, by simp [ffR, tn, c_5, c_17, *], by rfl, hB, hI⟩ dX7_familyFeeIfAdmitted_49
    · refine j_bipush (v := (-2)) X dX7_familyFeeIfAdmitted_20 (by decide) ?_
      exact j_ireturn X E (S) rfl ⟨_, rfl, by simp [ffR, tn, c_5, c_17, *], by rfl, hB, hI⟩ dX7_familyFeeIfAdmitted_22
  · refine j_iconst (v := (-1)) X dX7_familyFeeIfAdmitted_8 (by decide) ?_
    exact j_ireturn X E (S) rfl ⟨_, rfl, by simp [ffR, tn, c_5, *], by rfl, hB, hI⟩ dX7_familyFeeIfAdmitted_9
set_option maxRecDepth 100000 in
set_option maxHeartbeats 4000000 in
theorem m_X7_addSubstitute (S : MS) (hB : BD S) (hI : IV S) (x y z : Int32) : MM zX7_addSubstitute 1 [.int x, .int y, .int z] S (pS (subR S x y z) (subS S x y z)) := by
  intro D Y h0 ad
  refine MT.of [(0, .ref h0), (1, .int x), (2, .int y), (3, .int z)] (by decide) rfl (Nat.le_of_ble_eq_true rfl) ?_
  intro K hR X E
  refine j_iload_n X dX7_addSubstitute_0 rfl 1 rfl ?_
  refine j_iconst (v := nI 1) X dX7_addSubstitute_1 (by decide) ?_
  refine j_bipush (v := nI 31) X dX7_addSubstitute_2 (by decide) ?_
  refine jst_call3 X hR (m_X7_within _ _ _) m_X7_77 (by decide) (by decide) (Nat.le_of_ble_eq_true rfl) ⟨by decide, by decide⟩ dX7_addSubstitute_4 ?_
  refine b_if_eq (tgt := 30) X dX7_addSubstitute_7 (by decide) (fun c_7 => ?_) (fun c_7 => ?_)
  · refine j_iconst (v := (-1)) X dX7_addSubstitute_30 (by decide) ?_
    exact j_ireturn X E (S) rfl ⟨_, rfl, by simp [subR, subOk, tn, c_7, *], by simp [subS, subOk, tn, c_7, *], hB, hI⟩ dX7_addSubstitute_31
  · obtain ⟨p, hp0, hp, rfl⟩ := within_of (lo := 1) (n := 31) (by decide) (by decide) c_7
    have pl := nI_clamp (n := p) (by omega)
    refine j_iload_n X dX7_addSubstitute_10 rfl 2 rfl ?_
    refine j_iconst (v := nI 1) X dX7_addSubstitute_11 (by decide) ?_
    refine j_iconst (v := nI 5) X dX7_addSubstitute_12 (by decide) ?_
    refine jst_call3 X hR (m_X7_within _ _ _) m_X7_77 (by decide) (by decide) (Nat.le_of_ble_eq_true rfl) ⟨by decide, by decide⟩ dX7_addSubstitute_13 ?_
    refine b_if_eq (tgt := 30) X dX7_addSubstitute_16 (by decide) (fun c_16 => ?_) (fun c_16 => ?_)
    · refine j_iconst (v := (-1)) X dX7_addSubstitute_30 (by decide) ?_
      exact j_ireturn X E (S) rfl ⟨_, rfl, by simp [subR, subOk, tn, c_7, c_16, *], by simp [subS, subOk, tn, c_7, c_16, *], hB, hI⟩ dX7_addSubstitute_31
    · obtain ⟨q, hq0, hq, rfl⟩ := within_of (lo := 1) (n := 5) (by decide) (by decide) c_16
      have ql := nI_clamp (n := q) (by omega)
      refine j_iload_n X dX7_addSubstitute_19 rfl 3 rfl ?_
      refine j_iconst (v := nI 1) X dX7_addSubstitute_20 (by decide) ?_
      refine j_sipush (v := nI 1000) X dX7_addSubstitute_21 (by decide) ?_
      refine jst_call3 X hR (m_X7_within _ _ _) m_X7_77 (by decide) (by decide) (Nat.le_of_ble_eq_true rfl) ⟨by decide, by decide⟩ dX7_addSubstitute_24 ?_
      refine b_if_ne (tgt := 32) X dX7_addSubstitute_27 (by decide) (fun c_27 => ?_) (fun c_27 => ?_)
      · obtain ⟨r, hr0, hr, rfl⟩ := within_of (lo := 1) (n := 1000) (by decide) (by decide) c_27
        have rl := nI_clamp (n := r) (by omega)
        refine j_aload_n X dX7_addSubstitute_32 rfl 0 rfl ?_
        refine jm_get X 15 (by decide) rfl f_X7_171 dX7_addSubstitute_33 ?_
        refine n_name (fun v_33 e_33 => ?_)
        have b_33 : v_33 < 16777216 := by rw [e_33]; exact hB _ _
        refine j_iconst (v := nI 4) X dX7_addSubstitute_36 (by decide) ?_
        refine n_icmp_ne (tgt := 43) X dX7_addSubstitute_37 (by decide) (by omega) (by omega) (fun c_37 => ?_) (fun c_37 => ?_)
        · have hs4 := hI.2.2.2.2.2.2.2.2.2.2.1
          have c37 : ¬ S 21 2 = 4 := by omega
          refine j_aload_n X dX7_addSubstitute_43 rfl 0 rfl ?_
          refine jm_get X 16 (by decide) rfl f_X7_53 dX7_addSubstitute_44 ?_
          refine j_aload_n X dX7_addSubstitute_47 rfl 0 rfl ?_
          refine jm_get X 15 (by decide) rfl f_X7_171 dX7_addSubstitute_48 ?_
          refine n_name (fun v_48 e_48 => ?_)
          have b_48 : v_48 < 16777216 := by rw [e_48]; exact hB _ _
          refine j_iload_n X dX7_addSubstitute_51 rfl 1 rfl ?_
          have f48 : v_48 = S 21 2 := e_48
          refine jm_ast2 X hB (by decide) (by show _ < 4; omega) (by omega) dX7_addSubstitute_52 (fun S_52 eS_52 hB_52 => ?_)
          refine j_aload_n X dX7_addSubstitute_53 rfl 0 rfl ?_
          refine jm_get X 17 (by decide) rfl f_X7_56 dX7_addSubstitute_54 ?_
          refine j_aload_n X dX7_addSubstitute_57 rfl 0 rfl ?_
          refine jm_get X 15 (by decide) rfl f_X7_171 dX7_addSubstitute_58 ?_
          refine n_name (fun v_58 e_58 => ?_)
          have b_58 : v_58 < 16777216 := by rw [e_58]; exact hB_52 _ _
          refine j_iload_n X dX7_addSubstitute_61 rfl 2 rfl ?_
          have f58 : v_58 = S 21 2 := by rw [e_58, eS_52]; exact uM_nk (by omega)
          refine jm_ast2 X hB_52 (by decide) (by show _ < 4; omega) (by omega) dX7_addSubstitute_62 (fun S_62 eS_62 hB_62 => ?_)
          refine j_aload_n X dX7_addSubstitute_63 rfl 0 rfl ?_
          refine jm_get X 18 (by decide) rfl f_X7_59 dX7_addSubstitute_64 ?_
          refine j_aload_n X dX7_addSubstitute_67 rfl 0 rfl ?_
          refine jm_get X 15 (by decide) rfl f_X7_171 dX7_addSubstitute_68 ?_
          refine n_name (fun v_68 e_68 => ?_)
          have b_68 : v_68 < 16777216 := by rw [e_68]; exact hB_62 _ _
          refine j_iload_n X dX7_addSubstitute_71 rfl 3 rfl ?_
          have f68 : v_68 = S 21 2 := by rw [e_68, eS_62, uM_nk (by omega), eS_52]; exact uM_nk (by omega)
          refine jm_ast2 X hB_62 (by decide) (by show _ < 4; omega) (by omega) dX7_addSubstitute_72 (fun S_72 eS_72 hB_72 => ?_)
          refine j_aload_n X dX7_addSubstitute_73 rfl 0 rfl ?_
          refine j_dup X dX7_addSubstitute_74 rfl ?_
          refine jm_get X 15 (by decide) rfl f_X7_171 dX7_addSubstitute_75 ?_
          refine n_name (fun v_75 e_75 => ?_)
          have b_75 : v_75 < 16777216 := by rw [e_75]; exact hB_72 _ _
          have f75 : v_75 = S 21 2 := by rw [e_75, eS_72, uM_nk (by omega), eS_62, uM_nk (by omega), eS_52]; exact uM_nk (by omega)
          refine j_iconst (v := nI 1) X dX7_addSubstitute_78 (by decide) ?_
          refine n_iadd X dX7_addSubstitute_79 ?_
          refine jm_put2 X hB_72 15 2 (by decide) WM_s2 f_X7_171 rfl (by decide) (by omega) dX7_addSubstitute_80 (fun S_80 eS_80 hB_80 => ?_)
          have hnew : S_80 = subNew S p q r := by rw [eS_80, eS_72, eS_62, eS_52, f48, f58, f68, f75]; rfl
          have hI2 : IV S_80 := by rw [hnew]; exact IV_sub hI (by omega) (by omega) (by omega) (by omega)
          refine j_aload_n X dX7_addSubstitute_83 rfl 0 rfl ?_
          refine jm_get X 15 (by decide) rfl f_X7_171 dX7_addSubstitute_84 ?_
          refine n_name (fun v_84 e_84 => ?_)
          have b_84 : v_84 < 16777216 := by rw [e_84]; exact hB_80 _ _
          have f84 : v_84 = S 21 2 + 1 := by rw [e_84, eS_80, uM_eq, f75]
          refine j_iconst (v := nI 1) X dX7_addSubstitute_87 (by decide) ?_
          refine n_isub X dX7_addSubstitute_88 (by omega) ?_
          exact j_ireturn X E (S_80) rfl ⟨_, rfl, by rw [f84]; simp [subR, subOk, tn, c_7, c_16, c_27, c37], by rw [hnew]; simp [subS, subOk, tn, c_7, c_16, c_27, c37, pl, ql, rl], hB_80, hI2⟩ dX7_addSubstitute_89
        · have c37 : S 21 2 = 4 := by omega
          refine j_bipush (v := (-3)) X dX7_addSubstitute_40 (by decide) ?_
          exact j_ireturn X E (S) rfl ⟨_, rfl, by simp [subR, subOk, c_7, c_16, c_27, c37], by simp [subS, subOk, c_7, c_16, c_27, c37], hB, hI⟩ dX7_addSubstitute_42
      · refine j_iconst (v := (-1)) X dX7_addSubstitute_30 (by decide) ?_
        exact j_ireturn X E (S) rfl ⟨_, rfl, by simp [subR, subOk, tn, c_7, c_16, c_27, *], by simp [subS, subOk, tn, c_7, c_16, c_27, *], hB, hI⟩ dX7_addSubstitute_31
