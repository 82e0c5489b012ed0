set_option maxRecDepth 100000 in
set_option maxHeartbeats 4000000 in
theorem m_X7_within (v lo hi : Int32) : MSt zX7_within 0 [.int v, .int lo, .int hi] (fun w => w = some (.int (bI (withinI v lo hi)))) := by
  intro D Y ws
  refine MT.of [(0, .int v), (1, .int lo), (2, .int hi)] (by decide) rfl (Nat.le_of_ble_eq_true rfl) ?_
  intro K hR X E
  refine j_iload_n X dX7_within_0 rfl 0 rfl ?_
  refine j_iload_n X dX7_within_1 rfl 1 rfl ?_
  refine j_icmp_lt (tgt := 14) X dX7_within_2 (by decide) (fun c_2 => ?_) (fun c_2 => ?_)
  · refine j_iconst (v := bI false) X dX7_within_14 (by decide) ?_
    exact j_zreturn X E (_) rfl ⟨by congr 3; symm; simp only [withinI, Bool.and_eq_true, Bool.and_eq_false_iff, decide_eq_true_eq, decide_eq_false_iff_not, Int32.le_iff_toInt_le, Int32.lt_iff_toInt_lt] at *; omega, rfl⟩ dX7_within_15
  · refine j_iload_n X dX7_within_5 rfl 0 rfl ?_
    refine j_iload_n X dX7_within_6 rfl 2 rfl ?_
    refine j_icmp_gt (tgt := 14) X dX7_within_7 (by decide) (fun c_7 => ?_) (fun c_7 => ?_)
    · refine j_iconst (v := bI false) X dX7_within_14 (by decide) ?_
      exact j_zreturn X E (_) rfl ⟨by congr 3; symm; simp only [withinI, Bool.and_eq_true, Bool.and_eq_false_iff, decide_eq_true_eq, decide_eq_false_iff_not, Int32.le_iff_toInt_le, Int32.lt_iff_toInt_lt] at *; omega, rfl⟩ dX7_within_15
    · refine j_iconst (v := bI true) X dX7_within_10 (by decide) ?_
      refine j_goto (tgt := 15) X dX7_within_11 (by decide) ?_
      exact j_zreturn X E (_) rfl ⟨by congr 3; symm; simp only [withinI, Bool.and_eq_true, Bool.and_eq_false_iff, decide_eq_true_eq, decide_eq_false_iff_not, Int32.le_iff_toInt_le, Int32.lt_iff_toInt_lt] at *; omega, rfl⟩ dX7_within_15
set_option maxRecDepth 100000 in
set_option maxHeartbeats 4000000 in
theorem m_X7_isDay (x : Int32) : MSt zX7_isDay 1 [.int x] (fun w => w = some (.int (bI (isDayI x)))) := by
  intro D Y ws
  refine MT.of [(0, .int x)] (by decide) rfl (Nat.le_of_ble_eq_true rfl) ?_
  intro K hR X E
  refine j_iload_n X dX7_isDay_0 rfl 0 rfl ?_
  refine j_iconst (v := nI 0) X dX7_isDay_1 (by decide) ?_
  refine j_iconst (v := nI 4) X dX7_isDay_2 (by decide) ?_
  refine jst_call3 X hR (m_X7_within _ _ _) m_X7_77 (by decide) (by decide) (Nat.le_of_ble_eq_true rfl) ⟨by decide, by decide⟩ dX7_isDay_3 ?_
  exact j_zreturn X E (_) rfl ⟨rfl, rfl⟩ dX7_isDay_6
set_option maxRecDepth 100000 in
set_option maxHeartbeats 4000000 in
theorem m_X7_isWeek (x : Int32) : MSt zX7_isWeek 1 [.int x] (fun w => w = some (.int (bI (isWeekI x)))) := by
  intro D Y ws
  refine MT.of [(0, .int x)] (by decide) rfl (Nat.le_of_ble_eq_true rfl) ?_
  intro K hR X E
  refine j_iload_n X dX7_isWeek_0 rfl 0 rfl ?_
  refine j_iconst (v := nI 0) X dX7_isWeek_1 (by decide) ?_
  refine j_bipush (v := nI 51) X dX7_isWeek_2 (by decide) ?_
  refine jst_call3 X hR (m_X7_within _ _ _) m_X7_77 (by decide) (by decide) (Nat.le_of_ble_eq_true rfl) ⟨by decide, by decide⟩ dX7_isWeek_4 ?_
  exact j_zreturn X E (_) rfl ⟨rfl, rfl⟩ dX7_isWeek_7
set_option maxRecDepth 100000 in
set_option maxHeartbeats 4000000 in
theorem m_X7_isAgeGroup (x : Int32) : MSt zX7_isAgeGroup 1 [.int x] (fun w => w = some (.int (bI (isGroupI x)))) := by
  intro D Y ws
  refine MT.of [(0, .int x)] (by decide) rfl (Nat.le_of_ble_eq_true rfl) ?_
  intro K hR X E
  refine j_iload_n X dX7_isAgeGroup_0 rfl 0 rfl ?_
  refine j_iconst (v := nI 0) X dX7_isAgeGroup_1 (by decide) ?_
  refine j_iconst (v := nI 2) X dX7_isAgeGroup_2 (by decide) ?_
  refine jst_call3 X hR (m_X7_within _ _ _) m_X7_77 (by decide) (by decide) (Nat.le_of_ble_eq_true rfl) ⟨by decide, by decide⟩ dX7_isAgeGroup_3 ?_
  exact j_zreturn X E (_) rfl ⟨rfl, rfl⟩ dX7_isAgeGroup_6
set_option maxRecDepth 100000 in
set_option maxHeartbeats 4000000 in
theorem m_X7_isSpan (b e : Int32) : MSt zX7_isSpan 1 [.int b, .int e] (fun w => w = some (.int (bI (isSpanI b e)))) := by
  intro D Y ws
  refine MT.of [(0, .int b), (1, .int e)] (by decide) rfl (Nat.le_of_ble_eq_true rfl) ?_
  intro K hR X E
  refine j_iload_n X dX7_isSpan_0 rfl 0 rfl ?_
  refine j_iconst (v := nI 0) X dX7_isSpan_1 (by decide) ?_
  refine j_bipush (v := nI 10) X dX7_isSpan_2 (by decide) ?_
  refine jst_call3 X hR (m_X7_within _ _ _) m_X7_77 (by decide) (by decide) (Nat.le_of_ble_eq_true rfl) ⟨by decide, by decide⟩ dX7_isSpan_4 ?_
  refine b_if_eq (tgt := 24) X dX7_isSpan_7 (by decide) (fun c_7 => ?_) (fun c_7 => ?_)
  · refine j_iconst (v := bI false) X dX7_isSpan_24 (by decide) ?_
    exact j_zreturn X E (_) rfl ⟨by simp only [isSpanI, c_7]; rfl, rfl⟩ dX7_isSpan_25
  · refine j_iload_n X dX7_isSpan_10 rfl 1 rfl ?_
    refine j_iload_n X dX7_isSpan_11 rfl 0 rfl ?_
    refine j_bipush (v := nI 10) X dX7_isSpan_12 (by decide) ?_
    refine jst_call3 X hR (m_X7_within _ _ _) m_X7_77 (by decide) (by decide) (Nat.le_of_ble_eq_true rfl) ⟨by decide, by decide⟩ dX7_isSpan_14 ?_
    refine b_if_eq (tgt := 24) X dX7_isSpan_17 (by decide) (fun c_17 => ?_) (fun c_17 => ?_)
    · refine j_iconst (v := bI false) X dX7_isSpan_24 (by decide) ?_
      exact j_zreturn X E (_) rfl ⟨by simp only [isSpanI, c_7, c_17]; rfl, rfl⟩ dX7_isSpan_25
    · refine j_iconst (v := bI true) X dX7_isSpan_20 (by decide) ?_
      refine j_goto (tgt := 25) X dX7_isSpan_21 (by decide) ?_
      exact j_zreturn X E (_) rfl ⟨by simp only [isSpanI, c_7, c_17]; rfl, rfl⟩ dX7_isSpan_25
set_option maxRecDepth 100000 in
set_option maxHeartbeats 4000000 in
theorem m_X7_isHour (d h : Int32) : MSt zX7_isHour 2 [.int d, .int h] (fun w => w = some (.int (bI (isHourI d h)))) := by
  intro D Y ws
  refine MT.of [(0, .int d), (1, .int h)] (by decide) rfl (Nat.le_of_ble_eq_true rfl) ?_
  intro K hR X E
  refine j_iload_n X dX7_isHour_0 rfl 0 rfl ?_
  refine jst_call1 X hR (m_X7_isDay _) m_X7_116 (by decide) (by decide) (Nat.le_of_ble_eq_true rfl) ⟨by decide, by decide⟩ dX7_isHour_1 ?_
  refine b_if_eq (tgt := 21) X dX7_isHour_4 (by decide) (fun c_4 => ?_) (fun c_4 => ?_)
  · refine j_iconst (v := bI false) X dX7_isHour_21 (by decide) ?_
    exact j_zreturn X E (_) rfl ⟨by simp only [isHourI, c_4]; rfl, rfl⟩ dX7_isHour_22
  · refine j_iload_n X dX7_isHour_7 rfl 1 rfl ?_
    refine j_iconst (v := nI 0) X dX7_isHour_8 (by decide) ?_
    refine j_bipush (v := nI 9) X dX7_isHour_9 (by decide) ?_
    refine jst_call3 X hR (m_X7_within _ _ _) m_X7_77 (by decide) (by decide) (Nat.le_of_ble_eq_true rfl) ⟨by decide, by decide⟩ dX7_isHour_11 ?_
    refine b_if_eq (tgt := 21) X dX7_isHour_14 (by decide) (fun c_14 => ?_) (fun c_14 => ?_)
    · refine j_iconst (v := bI false) X dX7_isHour_21 (by decide) ?_
      exact j_zreturn X E (_) rfl ⟨by simp only [isHourI, c_4, c_14]; rfl, rfl⟩ dX7_isHour_22
    · refine j_iconst (v := bI true) X dX7_isHour_17 (by decide) ?_
      refine j_goto (tgt := 22) X dX7_isHour_18 (by decide) ?_
      exact j_zreturn X E (_) rfl ⟨by simp only [isHourI, c_4, c_14]; rfl, rfl⟩ dX7_isHour_22
set_option maxRecDepth 100000 in
set_option maxHeartbeats 4000000 in
theorem m_X7_hasChild (S : MS) (hB : BD S) (x : Int32) : MM zX7_hasChild 1 [.int x] S (pB S (hasC S x)) := by
  intro D Y h0 ad
  refine MT.of [(0, .ref h0), (1, .int x)] (by decide) rfl (Nat.le_of_ble_eq_true rfl) ?_
  intro K hR X E
  refine j_iload_n X dX7_hasChild_0 rfl 1 rfl ?_
  refine j_iconst (v := nI 0) X dX7_hasChild_1 (by decide) ?_
  refine j_bipush (v := nI 23) X dX7_hasChild_2 (by decide) ?_
  refine jst_call3 X hR (m_X7_within _ _ _) m_X7_77 (by decide) (by decide) (Nat.le_of_ble_eq_true rfl) ⟨by decide, by decide⟩ dX7_hasChild_4 ?_
  refine b_if_eq (tgt := 24) X dX7_hasChild_7 (by decide) (fun c_7 => ?_) (fun c_7 => ?_)
  · refine j_iconst (v := bI false) X dX7_hasChild_24 (by decide) ?_
    exact j_zreturn X E (S) rfl ⟨_, rfl, by first | (simp [hasC, c_7]; done) | (rw [nI_clamp (by omega)] at *; simp_all [hasC]; done) | simp_all [hasC], rfl⟩ dX7_hasChild_25
  · obtain ⟨c, hc, rfl⟩ := within_0 (by decide) c_7
    have hcl := nI_clamp (n := c) (by omega)
    refine j_aload_n X dX7_hasChild_10 rfl 0 rfl ?_
    refine jm_get X 1 (by decide) rfl f_X7_7 dX7_hasChild_11 ?_
    refine j_iload_n X dX7_hasChild_14 rfl 1 rfl ?_
    refine jm_ald X hB (by decide) (by show _ < 24; omega) dX7_hasChild_15 (fun v_15 e_15 b_15 => ?_)
    refine j_iconst (v := nI 1) X dX7_hasChild_16 (by decide) ?_
    refine n_icmp_ne (tgt := 24) X dX7_hasChild_17 (by decide) (by omega) (by omega) (fun c_17 => ?_) (fun c_17 => ?_)
    · refine j_iconst (v := bI false) X dX7_hasChild_24 (by decide) ?_
      exact j_zreturn X E (S) rfl ⟨_, rfl, by first | (simp [hasC, c_7, c_17]; done) | (rw [nI_clamp (by omega)] at *; simp_all [hasC]; done) | simp_all [hasC], rfl⟩ dX7_hasChild_25
    · refine j_iconst (v := bI true) X dX7_hasChild_20 (by decide) ?_
      refine j_goto (tgt := 25) X dX7_hasChild_21 (by decide) ?_
      exact j_zreturn X E (S) rfl ⟨_, rfl, by first | (simp [hasC, c_7, c_17]; done) | (rw [nI_clamp (by omega)] at *; simp_all [hasC]; done) | simp_all [hasC], rfl⟩ dX7_hasChild_25
set_option maxRecDepth 100000 in
set_option maxHeartbeats 4000000 in
theorem m_X7_isIn (S : MS) (hB : BD S) (c : Nat) (hc : c < 24) : MM zX7_isIn 0 [.int (nI c)] S (pB S (isIn S c)) := by
  intro D Y h0 ad
  refine MT.of [(0, .ref h0), (1, .int (nI c))] (by decide) rfl (Nat.le_of_ble_eq_true rfl) ?_
  intro K hR X E
  refine j_aload_n X dX7_isIn_0 rfl 0 rfl ?_
  refine jm_get X 1 (by decide) rfl f_X7_7 dX7_isIn_1 ?_
  refine j_iload_n X dX7_isIn_4 rfl 1 rfl ?_
  refine jm_ald X hB (by decide) (by show _ < 24; omega) dX7_isIn_5 (fun v_5 e_5 b_5 => ?_)
  refine j_iconst (v := nI 1) X dX7_isIn_6 (by decide) ?_
  refine n_icmp_ne (tgt := 24) X dX7_isIn_7 (by decide) (by omega) (by omega) (fun c_7 => ?_) (fun c_7 => ?_)
  · refine j_iconst (v := bI false) X dX7_isIn_24 (by decide) ?_
    exact j_zreturn X E (S) rfl ⟨_, rfl, by congr 1; symm; simp only [isIn]; simp; omega, rfl⟩ dX7_isIn_25
  · refine j_aload_n X dX7_isIn_10 rfl 0 rfl ?_
    refine jm_get X 4 (by decide) rfl f_X7_19 dX7_isIn_11 ?_
    refine j_iload_n X dX7_isIn_14 rfl 1 rfl ?_
    refine jm_ald X hB (by decide) (by show _ < 24; omega) dX7_isIn_15 (fun v_15 e_15 b_15 => ?_)
    refine j_iconst (v := nI 1) X dX7_isIn_16 (by decide) ?_
    refine n_icmp_ne (tgt := 24) X dX7_isIn_17 (by decide) (by omega) (by omega) (fun c_17 => ?_) (fun c_17 => ?_)
    · refine j_iconst (v := bI false) X dX7_isIn_24 (by decide) ?_
      exact j_zreturn X E (S) rfl ⟨_, rfl, by congr 1; symm; simp only [isIn]; simp; omega, rfl⟩ dX7_isIn_25
    · refine j_iconst (v := bI true) X dX7_isIn_20 (by decide) ?_
      refine j_goto (tgt := 25) X dX7_isIn_21 (by decide) ?_
      exact j_zreturn X E (S) rfl ⟨_, rfl, by congr 1; symm; simp only [isIn]; simp; omega, rfl⟩ dX7_isIn_25
set_option maxRecDepth 100000 in
set_option maxHeartbeats 4000000 in
theorem m_X7_childMany (S : MS) (hB : BD S) (hI : IV S) : MM zX7_childMany 0 [] S (pN S (childN S) 24) := by
  intro D Y h0 ad
  refine MT.of [(0, .ref h0)] (by decide) rfl (Nat.le_of_ble_eq_true rfl) ?_
  intro K hR X E
  refine j_iconst (v := nI 0) X dX7_childMany_0 (by decide) ?_
  refine j_istore_n X [(1, _), (0, _)] dX7_childMany_1 rfl (by decide) rfl ?_
  refine j_iconst (v := nI 0) X dX7_childMany_2 (by decide) ?_
  refine j_istore_n X [(2, _), (1, _), (0, _)] dX7_childMany_3 rfl (by decide) rfl ?_
  have L4 : ∀ (n : Nat) (i s : Nat), (i ≤ 24) → (s = sm (fun c => S 0 c) i) → (24 + 1 ≤ i + n) → JJ K D 0 0 (WM h0 ad Y S) [(0, .ref h0), (1, .int (nI s)), (2, .int (nI i))] 4 [] := by
    intro n
    induction n with
    | zero =>
      intro i s hi hs hf4
      exact absurd hf4 (by omega)
    | succ n4 ih4 =>
      intro i s hi hs hf4
      refine j_iload_n X dX7_childMany_4 rfl 2 rfl ?_
      refine j_bipush (v := nI 24) X dX7_childMany_5 (by decide) ?_
      refine n_icmp_ge (tgt := 25) X dX7_childMany_7 (by decide) (by omega) (by omega) (fun c_7 => ?_) (fun c_7 => ?_)
      · have hle : sm (fun c => S 0 c) 24 ≤ 24 * 1 := sm_le (fun i hi => (hI.2.2.1 i hi).1)
        have hi24 : i = 24 := by omega
        subst hi24
        refine j_iload_n X dX7_childMany_25 rfl 1 rfl ?_
        exact j_ireturn X E (S) rfl ⟨_, rfl, _, hs, by omega, rfl, rfl⟩ dX7_childMany_26
      · refine j_iload_n X dX7_childMany_10 rfl 1 rfl ?_
        refine j_aload_n X dX7_childMany_11 rfl 0 rfl ?_
        refine jm_get X 1 (by decide) rfl f_X7_7 dX7_childMany_12 ?_
        refine j_iload_n X dX7_childMany_15 rfl 2 rfl ?_
        refine jm_ald X hB (by decide) (by show _ < 24; omega) dX7_childMany_16 (fun v_16 e_16 b_16 => ?_)
        refine n_iadd X dX7_childMany_17 ?_
        refine j_istore_n X [(1, _), (0, _), (2, _)] dX7_childMany_18 rfl (by decide) rfl ?_
        refine n_iinc X [(2, _), (1, _), (0, _)] dX7_childMany_19 (q := 2) (b := 1) rfl (by decide) (by decide) rfl ?_
        refine j_goto (tgt := 4) X dX7_childMany_22 (by decide) ?_
        exact j_sub [2, 1, 0] rfl (ih4 _ _ (by omega) (by rw [sm_s]; omega) (by omega))
  exact j_sub [2, 1, 0] rfl (L4 25 _ _ (by omega) (by rfl) (by omega))
set_option maxRecDepth 100000 in
set_option maxHeartbeats 4000000 in
theorem m_X7_hoursOf (S : MS) (hB : BD S) (hI : IV S) (c : Nat) (hc : c < 24) : MM zX7_hoursOf 0 [.int (nI c)] S (pN S (hoursN S c) 50) := by
  intro D Y h0 ad
  refine MT.of [(0, .ref h0), (1, .int (nI c))] (by decide) rfl (Nat.le_of_ble_eq_true rfl) ?_
  intro K hR X E
  refine j_iconst (v := nI 0) X dX7_hoursOf_0 (by decide) ?_
  refine j_istore_n X [(2, _), (0, _), (1, _)] dX7_hoursOf_1 rfl (by decide) rfl ?_
  refine j_iconst (v := nI 0) X dX7_hoursOf_2 (by decide) ?_
  refine j_istore_n X [(3, _), (2, _), (0, _), (1, _)] dX7_hoursOf_3 rfl (by decide) rfl ?_
  have L4 : ∀ (n : Nat) (i s : Nat), (i ≤ 5) → (s = sm (fun d => S 6 (5 * c + d) - S 5 (5 * c + d)) i) → (5 + 1 ≤ i + n) → JJ K D 0 0 (WM h0 ad Y S) [(0, .ref h0), (1, .int (nI c)), (2, .int (nI s)), (3, .int (nI i))] 4 [] := by
    intro n
    induction n with
    | zero =>
      intro i s hi hs hf4
      exact absurd hf4 (by omega)
    | succ n4 ih4 =>
      intro i s hi hs hf4
      refine j_iload_n X dX7_hoursOf_4 rfl 3 rfl ?_
      refine j_iconst (v := nI 5) X dX7_hoursOf_5 (by decide) ?_
      refine n_icmp_ge (tgt := 39) X dX7_hoursOf_6 (by decide) (by omega) (by omega) (fun c_6 => ?_) (fun c_6 => ?_)
      · have hle : sm (fun d => S 6 (5 * c + d) - S 5 (5 * c + d)) 5 ≤ 5 * 10 := sm_le (fun i hi => by have := hI.1 (5 * c + i) (by omega); omega)
        have hi5 : i = 5 := by omega
        subst hi5
        refine j_iload_n X dX7_hoursOf_39 rfl 2 rfl ?_
        exact j_ireturn X E (S) rfl ⟨_, rfl, _, hs, by omega, rfl, rfl⟩ dX7_hoursOf_40
      · have hb := hI.1 (5 * c + i) (by omega)
        refine j_iload_n X dX7_hoursOf_9 rfl 2 rfl ?_
        refine j_aload_n X dX7_hoursOf_10 rfl 0 rfl ?_
        refine jm_get X 7 (by decide) rfl f_X7_28 dX7_hoursOf_11 ?_
        refine j_iconst (v := nI 5) X dX7_hoursOf_14 (by decide) ?_
        refine j_iload_n X dX7_hoursOf_15 rfl 1 rfl ?_
        refine n_imul X dX7_hoursOf_16 ?_
        refine j_iload_n X dX7_hoursOf_17 rfl 3 rfl ?_
        refine n_iadd X dX7_hoursOf_18 ?_
        refine jm_ald X hB (by decide) (by show _ < 120; omega) dX7_hoursOf_19 (fun v_19 e_19 b_19 => ?_)
        refine j_aload_n X dX7_hoursOf_20 rfl 0 rfl ?_
        refine jm_get X 6 (by decide) rfl f_X7_25 dX7_hoursOf_21 ?_
        refine j_iconst (v := nI 5) X dX7_hoursOf_24 (by decide) ?_
        refine j_iload_n X dX7_hoursOf_25 rfl 1 rfl ?_
        refine n_imul X dX7_hoursOf_26 ?_
        refine j_iload_n X dX7_hoursOf_27 rfl 3 rfl ?_
        refine n_iadd X dX7_hoursOf_28 ?_
        refine jm_ald X hB (by decide) (by show _ < 120; omega) dX7_hoursOf_29 (fun v_29 e_29 b_29 => ?_)
        refine n_isub X dX7_hoursOf_30 (by omega) ?_
        refine n_iadd X dX7_hoursOf_31 ?_
        refine j_istore_n X [(2, _), (0, _), (1, _), (3, _)] dX7_hoursOf_32 rfl (by decide) rfl ?_
        refine n_iinc X [(3, _), (2, _), (0, _), (1, _)] dX7_hoursOf_33 (q := 3) (b := 1) rfl (by decide) (by decide) rfl ?_
        refine j_goto (tgt := 4) X dX7_hoursOf_36 (by decide) ?_
        exact j_sub [2, 3, 1, 0] rfl (ih4 _ _ (by omega) (by rw [sm_s]; omega) (by omega))
  exact j_sub [2, 3, 1, 0] rfl (L4 6 _ _ (by omega) (by rfl) (by omega))
set_option maxRecDepth 100000 in
set_option maxHeartbeats 4000000 in
theorem m_X7_isBooked (S : MS) (hB : BD S) (c d h : Nat) (hc : c < 24) (hd : d < 5) (hh : h < 10) : MM zX7_isBooked 1 [.int (nI c), .int (nI d), .int (nI h)] S (pB S (isBkd S c d h)) := by
  intro D Y h0 ad
  refine MT.of [(0, .ref h0), (1, .int (nI c)), (2, .int (nI d)), (3, .int (nI h))] (by decide) rfl (Nat.le_of_ble_eq_true rfl) ?_
  intro K hR X E
  refine j_iload_n X dX7_isBooked_0 rfl 3 rfl ?_
  refine j_aload_n X dX7_isBooked_1 rfl 0 rfl ?_
  refine jm_get X 6 (by decide) rfl f_X7_25 dX7_isBooked_2 ?_
  refine j_iconst (v := nI 5) X dX7_isBooked_5 (by decide) ?_
  refine j_iload_n X dX7_isBooked_6 rfl 1 rfl ?_
  refine n_imul X dX7_isBooked_7 ?_
  refine j_iload_n X dX7_isBooked_8 rfl 2 rfl ?_
  refine n_iadd X dX7_isBooked_9 ?_
  refine jm_ald X hB (by decide) (by show _ < 120; omega) dX7_isBooked_10 (fun v_10 e_10 b_10 => ?_)
  refine j_aload_n X dX7_isBooked_11 rfl 0 rfl ?_
  refine jm_get X 7 (by decide) rfl f_X7_28 dX7_isBooked_12 ?_
  refine j_iconst (v := nI 5) X dX7_isBooked_15 (by decide) ?_
  refine j_iload_n X dX7_isBooked_16 rfl 1 rfl ?_
  refine n_imul X dX7_isBooked_17 ?_
  refine j_iload_n X dX7_isBooked_18 rfl 2 rfl ?_
  refine n_iadd X dX7_isBooked_19 ?_
  refine jm_ald X hB (by decide) (by show _ < 120; omega) dX7_isBooked_20 (fun v_20 e_20 b_20 => ?_)
  refine j_iconst (v := nI 1) X dX7_isBooked_21 (by decide) ?_
  refine j_isub X dX7_isBooked_22 ?_
  refine jst_call3 X hR (m_X7_within _ _ _) m_X7_77 (by decide) (by decide) (Nat.le_of_ble_eq_true rfl) ⟨by decide, by decide⟩ dX7_isBooked_23 ?_
  exact j_zreturn X E (S) rfl ⟨_, rfl, by rw [within_P (by omega) (by omega) (by omega), e_10, e_20]; rfl, rfl⟩ dX7_isBooked_26
set_option maxRecDepth 100000 in
set_option maxHeartbeats 4000000 in
theorem m_X7_ageGroup (S : MS) (hB : BD S) (c : Nat) (hc : c < 24) : MM zX7_ageGroup 0 [.int (nI c)] S (pN S (grpN S c) 2) := by
  intro D Y h0 ad
  refine MT.of [(0, .ref h0), (1, .int (nI c))] (by decide) rfl (Nat.le_of_ble_eq_true rfl) ?_
  intro K hR X E
  refine j_aload_n X dX7_ageGroup_0 rfl 0 rfl ?_
  refine jm_get X 2 (by decide) rfl f_X7_13 dX7_ageGroup_1 ?_
  refine j_iload_n X dX7_ageGroup_4 rfl 1 rfl ?_
  refine jm_ald X hB (by decide) (by show _ < 24; omega) dX7_ageGroup_5 (fun v_5 e_5 b_5 => ?_)
  refine j_bipush (v := nI 24) X dX7_ageGroup_6 (by decide) ?_
  refine n_icmp_ge (tgt := 15) X dX7_ageGroup_8 (by decide) (by omega) (by omega) (fun c_8 => ?_) (fun c_8 => ?_)
  · refine j_aload_n X dX7_ageGroup_15 rfl 0 rfl ?_
    refine jm_get X 2 (by decide) rfl f_X7_13 dX7_ageGroup_16 ?_
    refine j_iload_n X dX7_ageGroup_19 rfl 1 rfl ?_
    refine jm_ald X hB (by decide) (by show _ < 24; omega) dX7_ageGroup_20 (fun v_20 e_20 b_20 => ?_)
    refine j_bipush (v := nI 36) X dX7_ageGroup_21 (by decide) ?_
    refine n_icmp_ge (tgt := 30) X dX7_ageGroup_23 (by decide) (by omega) (by omega) (fun c_23 => ?_) (fun c_23 => ?_)
    · refine j_iconst (v := nI 2) X dX7_ageGroup_30 (by decide) ?_
      exact j_ireturn X E (S) rfl ⟨_, rfl, _, by unfold grpN; (try split) <;> (try split) <;> omega, by omega, rfl, rfl⟩ dX7_ageGroup_31
    · refine j_iconst (v := nI 1) X dX7_ageGroup_26 (by decide) ?_
      refine j_goto (tgt := 31) X dX7_ageGroup_27 (by decide) ?_
      exact j_ireturn X E (S) rfl ⟨_, rfl, _, by unfold grpN; (try split) <;> (try split) <;> omega, by omega, rfl, rfl⟩ dX7_ageGroup_31
  · refine j_iconst (v := nI 0) X dX7_ageGroup_11 (by decide) ?_
    refine j_goto (tgt := 31) X dX7_ageGroup_12 (by decide) ?_
    exact j_ireturn X E (S) rfl ⟨_, rfl, _, by unfold grpN; (try split) <;> (try split) <;> omega, by omega, rfl, rfl⟩ dX7_ageGroup_31
set_option maxRecDepth 100000 in
set_option maxHeartbeats 4000000 in
theorem m_X7_presentOf (S : MS) (hB : BD S) (d h : Nat) (g : Int32) (hd : d < 5) (hh : h < 10) : MM zX7_presentOf 2 [.int (nI d), .int (nI h), .int g] S (pN S (presN S d h g) 24) := by
  intro D Y h0 ad
  refine MT.of [(0, .ref h0), (1, .int (nI d)), (2, .int (nI h)), (3, .int g)] (by decide) rfl (Nat.le_of_ble_eq_true rfl) ?_
  intro K hR X E
  refine j_iconst (v := nI 0) X dX7_presentOf_0 (by decide) ?_
  refine j_istore X [(4, _), (0, _), (1, _), (2, _), (3, _)] dX7_presentOf_1 (by decide) rfl ?_
  refine j_iconst (v := nI 0) X dX7_presentOf_3 (by decide) ?_
  refine j_istore X [(5, _), (4, _), (0, _), (1, _), (2, _), (3, _)] dX7_presentOf_4 (by decide) rfl ?_
  have L6 : ∀ (n : Nat) (i s : Nat), (i ≤ 24) → (s = sm (fun c => ct (presB S d h g c)) i) → (24 + 1 ≤ i + n) → JJ K D 0 0 (WM h0 ad Y S) [(0, .ref h0), (1, .int (nI d)), (2, .int (nI h)), (3, .int g), (4, .int (nI s)), (5, .int (nI i))] 6 [] := by
    intro n
    induction n with
    | zero =>
      intro i s hi hs hf6
      exact absurd hf6 (by omega)
    | succ n6 ih6 =>
      intro i s hi hs hf6
      refine j_iload X dX7_presentOf_6 5 rfl ?_
      refine j_bipush (v := nI 24) X dX7_presentOf_8 (by decide) ?_
      refine n_icmp_ge (tgt := 65) X dX7_presentOf_10 (by decide) (by omega) (by omega) (fun c_10 => ?_) (fun c_10 => ?_)
      · have hle : sm (fun c => ct (presB S d h g c)) 24 ≤ 24 * 1 := sm_le (fun i hi => ct_le _)
        have hi24 : i = 24 := by omega
        subst hi24
        refine j_iload X dX7_presentOf_65 4 rfl ?_
        exact j_ireturn X E (S) rfl ⟨_, rfl, _, hs, by omega, rfl, rfl⟩ dX7_presentOf_67
      · refine j_iload X dX7_presentOf_13 4 rfl ?_
        refine j_aload_n X dX7_presentOf_15 rfl 0 rfl ?_
        refine j_iload X dX7_presentOf_16 5 rfl ?_
        refine jm_callI1 X hR (m_X7_isIn S hB _ (by omega)) m_X7_93 rfl (by decide) (by decide) (Nat.le_of_ble_eq_true rfl) ⟨by decide, by decide⟩ dX7_presentOf_18 ?_
        rintro _ _ ⟨rfl, rfl⟩
        refine b_if_eq (tgt := 55) X dX7_presentOf_21 (by decide) (fun c_21 => ?_) (fun c_21 => ?_)
        · refine j_iconst (v := nI 0) X dX7_presentOf_55 (by decide) ?_
          refine n_iadd X dX7_presentOf_56 ?_
          refine j_istore X [(4, _), (0, _), (1, _), (2, _), (3, _), (5, _)] dX7_presentOf_57 (by decide) rfl ?_
          refine n_iinc X [(5, _), (4, _), (0, _), (1, _), (2, _), (3, _)] dX7_presentOf_59 (q := 5) (b := 1) rfl (by decide) (by decide) rfl ?_
          refine j_goto (tgt := 6) X dX7_presentOf_62 (by decide) ?_
          exact j_sub [2, 3, 4, 5, 1, 0] rfl (ih6 _ _ (by omega) (by rw [sm_s, hs]; congr 1; simp [presB, ct, c_10, c_21, *]) (by omega))
        · refine j_aload_n X dX7_presentOf_24 rfl 0 rfl ?_
          refine j_iload X dX7_presentOf_25 5 rfl ?_
          refine j_iload_n X dX7_presentOf_27 rfl 1 rfl ?_
          refine j_iload_n X dX7_presentOf_28 rfl 2 rfl ?_
          refine jm_callI3 X hR (m_X7_isBooked S hB _ _ _ (by omega) (by omega) (by omega)) m_X7_96 rfl (by decide) (by decide) (Nat.le_of_ble_eq_true rfl) ⟨by decide, by decide⟩ dX7_presentOf_29 ?_
          rintro _ _ ⟨rfl, rfl⟩
          refine b_if_eq (tgt := 55) X dX7_presentOf_32 (by decide) (fun c_32 => ?_) (fun c_32 => ?_)
          · refine j_iconst (v := nI 0) X dX7_presentOf_55 (by decide) ?_
            refine n_iadd X dX7_presentOf_56 ?_
            refine j_istore X [(4, _), (0, _), (1, _), (2, _), (3, _), (5, _)] dX7_presentOf_57 (by decide) rfl ?_
            refine n_iinc X [(5, _), (4, _), (0, _), (1, _), (2, _), (3, _)] dX7_presentOf_59 (q := 5) (b := 1) rfl (by decide) (by decide) rfl ?_
            refine j_goto (tgt := 6) X dX7_presentOf_62 (by decide) ?_
            exact j_sub [2, 3, 4, 5, 1, 0] rfl (ih6 _ _ (by omega) (by rw [sm_s, hs]; congr 1; simp [presB, ct, c_10, c_21, c_32, *]) (by omega))
          · refine j_iload_n X dX7_presentOf_35 rfl 3 rfl ?_
            refine j_bipush (v := (-9)) X dX7_presentOf_36 (by decide) ?_
            refine j_icmp_eq (tgt := 51) X dX7_presentOf_38 (by decide) (fun c_38 => ?_) (fun c_38 => ?_)
            · refine j_iconst (v := nI 1) X dX7_presentOf_51 (by decide) ?_
              refine j_goto (tgt := 56) X dX7_presentOf_52 (by decide) ?_
              refine n_iadd X dX7_presentOf_56 ?_
              refine j_istore X [(4, _), (0, _), (1, _), (2, _), (3, _), (5, _)] dX7_presentOf_57 (by decide) rfl ?_
              refine n_iinc X [(5, _), (4, _), (0, _), (1, _), (2, _), (3, _)] dX7_presentOf_59 (q := 5) (b := 1) rfl (by decide) (by decide) rfl ?_
              refine j_goto (tgt := 6) X dX7_presentOf_62 (by decide) ?_
              exact j_sub [2, 3, 4, 5, 1, 0] rfl (ih6 _ _ (by omega) (by rw [sm_s, hs]; congr 1; simp [presB, ct, c_10, c_21, c_32, c_38, *]) (by omega))
            · refine j_aload_n X dX7_presentOf_41 rfl 0 rfl ?_
              refine j_iload X dX7_presentOf_42 5 rfl ?_
              refine jm_callI1 X hR (m_X7_ageGroup S hB _ (by omega)) m_X7_99 rfl (by decide) (by decide) (Nat.le_of_ble_eq_true rfl) ⟨by decide, by decide⟩ dX7_presentOf_44 ?_
              rintro _ _ ⟨v_44, e_44, b_44, rfl, rfl⟩
              subst e_44
              refine j_iload_n X dX7_presentOf_47 rfl 3 rfl ?_
              refine j_icmp_ne (tgt := 55) X dX7_presentOf_48 (by decide) (fun c_48 => ?_) (fun c_48 => ?_)
              · refine j_iconst (v := nI 0) X dX7_presentOf_55 (by decide) ?_
                refine n_iadd X dX7_presentOf_56 ?_
                refine j_istore X [(4, _), (0, _), (1, _), (2, _), (3, _), (5, _)] dX7_presentOf_57 (by decide) rfl ?_
                refine n_iinc X [(5, _), (4, _), (0, _), (1, _), (2, _), (3, _)] dX7_presentOf_59 (q := 5) (b := 1) rfl (by decide) (by decide) rfl ?_
                refine j_goto (tgt := 6) X dX7_presentOf_62 (by decide) ?_
                exact j_sub [2, 3, 4, 5, 1, 0] rfl (ih6 _ _ (by omega) (by rw [sm_s, hs]; congr 1; simp [presB, ct, c_10, c_21, c_32, c_38, c_48, *]) (by omega))
              · refine j_iconst (v := nI 1) X dX7_presentOf_51 (by decide) ?_
                refine j_goto (tgt := 56) X dX7_presentOf_52 (by decide) ?_
                refine n_iadd X dX7_presentOf_56 ?_
                refine j_istore X [(4, _), (0, _), (1, _), (2, _), (3, _), (5, _)] dX7_presentOf_57 (by decide) rfl ?_
                refine n_iinc X [(5, _), (4, _), (0, _), (1, _), (2, _), (3, _)] dX7_presentOf_59 (q := 5) (b := 1) rfl (by decide) (by decide) rfl ?_
                refine j_goto (tgt := 6) X dX7_presentOf_62 (by decide) ?_
                exact j_sub [2, 3, 4, 5, 1, 0] rfl (ih6 _ _ (by omega) (by rw [sm_s, hs]; congr 1; simp [presB, ct, c_10, c_21, c_32, c_38, c_48, *]) (by omega))
  exact j_sub [2, 3, 4, 5, 1, 0] rfl (L6 25 _ _ (by omega) (by rfl) (by omega))
